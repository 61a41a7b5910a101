section
theorem dX13_canSing_0 : decode cX13_canSing 0 = .ok (.aload_n 0, 1) := by decide +kernel
theorem dX13_canSing_1 : decode cX13_canSing 1 = .ok (.iload_n 1, 1) := by decide +kernel
theorem dX13_canSing_2 : decode cX13_canSing 2 = .ok (.invokevirtual 437, 3) := by decide +kernel
theorem dX13_canSing_5 : decode cX13_canSing 5 = .ok (.aload_n 0, 1) := by decide +kernel
theorem dX13_canSing_6 : decode cX13_canSing 6 = .ok (.invokevirtual 446, 3) := by decide +kernel
theorem dX13_canSing_9 : decode cX13_canSing 9 = .ok (.ifCond .ne 7, 3) := by decide +kernel
theorem dX13_canSing_16 : decode cX13_canSing 16 = .ok (.iconst 0, 1) := by decide +kernel
theorem dX13_canSing_17 : decode cX13_canSing 17 = .ok (.ireturn, 1) := by decide +kernel
theorem dX13_canSing_12 : decode cX13_canSing 12 = .ok (.iconst 1, 1) := by decide +kernel
theorem dX13_canSing_13 : decode cX13_canSing 13 = .ok (.goto 4, 3) := by decide +kernel
set_option maxHeartbeats 4000000 in
set_option maxRecDepth 100000 in
theorem k_X13_canSing (l : Launch) (D : va_G) (cy : Nat → ClassId) (ld ad : Nat → Nat) (am : Nat) (hD : mz_D ad am) (Fa : Nat → Int32) (Ga : Nat → Int64) (Ra : Nat → Nat → Int32) (Sa : Nat → Nat → Int64) (p1 : Int32) (hIF : mz_IF true Fa) (hIG : mz_IG Ga) (hIR : mz_IR [] true Ra) (hp_0 : 0 ≤ p1.toInt) (hp_1 : p1.toInt ≤ 9) : Met l yX13_canSing (wl yX13_canSing cX13_canSing 2 (some .boolean)) ({ frames := 9, cells := 0, slots := 0, locals := 560 }) (mz_p D cy ld ad am Fa Ga Ra Sa [.ref am, .int p1]) (mz_i D cy ad am (fun r F G R S => mz_IF true F ∧ mz_IG G ∧ mz_IR [] true R ∧ (∀ k : Nat, k ∉ ([34, 38] : List Nat) → F k = Fa k) ∧ (∀ k : Nat, k ∉ ([] : List Nat) → R k = Ra k) ∧ (∀ k : Nat, k ∉ ([39, 40] : List Nat) → G k = Ga k) ∧ 0 ≤ r.toInt ∧ r.toInt ≤ 1 ∧ 0 ≤ r.toInt ∧ r.toInt ≤ 1)) 0 0 (mz_W ad am) := by
  refine mz_met (y := yX13_canSing) (cc := cX13_canSing) (maxL := 2) (ret := (some .boolean)) (av := [.ref am, .int p1]) _ (by decide) (Nat.le_of_ble_eq_true rfl) ?_
  intro p e s m args below meth c hx hb hr hml hts htl hown hlocks hK H locs hM hS ls hl
  have hown : s.vm.findClass RX13 = some m.cls := hown
  have hl : lv_has ls 2 [(0, .ref am), (1, .int p1)] := hl
  have hr_p1 := tk_rng p1
  refine lv_aload_n hx hb dX13_canSing_0 rfl (lv_at hl 0 rfl) ?_
  refine lv_iload_n hx hb dX13_canSing_1 rfl (lv_at hl 1 rfl) ?_
  refine mz_Vv (As := [.int p1]) (rest := []) ⟨hx, hb, hml, hown, hts⟩ hK hM hS (k_X13_layVerse l D cy ld ad am hD _ _ _ _ p1 hIF hIG hIR (by omega) (by omega)) ⟨callB_of 1 hts (wl_in mw_1091) rfl rfl rfl (htl _ mw_5) (htl _ mw_1088) hd_yX13_layVerse ⟨(Nat.le_of_ble_eq_true rfl), (Nat.le_of_ble_eq_true rfl)⟩, htl _ mw_1089, htl _ mw_1090⟩ rfl hl.1 rfl (Nat.le_of_ble_eq_true rfl) dX13_canSing_2 ⟨(Nat.le_of_ble_eq_true rfl), (Nat.le_of_ble_eq_true rfl)⟩ (fun H locs F G R S hpo hM hS => ?_)
  obtain ⟨hIF, hIG, hIR, hfr9, hrr9, hgr9⟩ := hpo
  have hFF := mz_fr (K := [34, 38]) (Fa := Fa) hfr9 (fun _ _ => rfl) (by decide)
  have hRR := mz_fr (K := []) (Fa := Ra) hrr9 (fun _ _ => rfl) (by decide)
  have hGG := mz_fr (K := [39, 40]) (Fa := Ga) hgr9 (fun _ _ => rfl) (by decide)
  refine lv_aload_n hx hb dX13_canSing_5 rfl (lv_at hl 0 rfl) ?_
  refine mz_Vi (As := []) (rest := []) ⟨hx, hb, hml, hown, hts⟩ hK hM hS (k_X13_isBarredSet l D cy ld ad am hD _ _ _ _ hIF hIG hIR) ⟨callB_of 0 hts (wl_in mw_1103) rfl rfl rfl (htl _ mw_5) (htl _ mw_1100) hd_yX13_isBarredSet ⟨(Nat.le_of_ble_eq_true rfl), (Nat.le_of_ble_eq_true rfl)⟩, htl _ mw_1101, htl _ mw_1102⟩ rfl hl.1 rfl (Nat.le_of_ble_eq_true rfl) dX13_canSing_6 ⟨(Nat.le_of_ble_eq_true rfl), (Nat.le_of_ble_eq_true rfl)⟩ (fun v2 H locs F G R S hpo hM hS => ?_)
  obtain ⟨hIF, hIG, hIR, hfr9, hrr9, hgr9, hpo3, hpo4, hpo5, hpo6⟩ := hpo
  have hq_v2 := tk_rng v2
  have hFF := mz_fr (K := [34, 38]) (Fa := Fa) hfr9 hFF (by decide)
  have hRR := mz_fr (K := []) (Fa := Ra) hrr9 hRR (by decide)
  have hGG := mz_fr (K := [39, 40]) (Fa := Ga) hgr9 hGG (by decide)
  refine lv_if_ne (tgt := 16) hx hb dX13_canSing_9 (by decide) (fun c9 => ?_) (fun c9 => ?_)
  · have hc11 : ¬ (v2.toInt = 0) := fun h9 => c9 ((fi_eq rfl (show (0 : Int32).toInt = 0 by decide)).mpr h9)
    refine lv_iconst (v := 0) hx hb dX13_canSing_16 (by decide) ?_
    have hk_0 : (0 : Int32).toInt = 0 := by decide
    exact mz_iret (v := 0) hx hb hr rfl hlocks ⟨hIF, hIG, hIR, hFF, hRR, hGG, (by omega), (by omega), (by omega), (by omega)⟩ hM hS dX13_canSing_17
  · have hc11 : v2.toInt = 0 := (fi_eq rfl (show (0 : Int32).toInt = 0 by decide)).mp c9
    refine lv_iconst (v := 1) hx hb dX13_canSing_12 (by decide) ?_
    refine lv_goto (tgt := 17) hx hb dX13_canSing_13 (by decide) ?_
    have hk_1 : (1 : Int32).toInt = 1 := by decide
    exact mz_iret (v := 1) hx hb hr rfl hlocks ⟨hIF, hIG, hIR, hFF, hRR, hGG, (by omega), (by omega), (by omega), (by omega)⟩ hM hS dX13_canSing_17
end
section
theorem dX13_draw_0 : decode cX13_draw 0 = .ok (.aload_n 0, 1) := by decide +kernel
theorem dX13_draw_1 : decode cX13_draw 1 = .ok (.aload_n 0, 1) := by decide +kernel
theorem dX13_draw_2 : decode cX13_draw 2 = .ok (.getfield 507, 3) := by decide +kernel
theorem dX13_draw_5 : decode cX13_draw 5 = .ok (.ldc2_w 510, 3) := by decide +kernel
theorem dX13_draw_8 : decode cX13_draw 8 = .ok (.lmul, 1) := by decide +kernel
theorem dX13_draw_9 : decode cX13_draw 9 = .ok (.ldc2_w 512, 3) := by decide +kernel
theorem dX13_draw_12 : decode cX13_draw 12 = .ok (.ladd, 1) := by decide +kernel
theorem dX13_draw_13 : decode cX13_draw 13 = .ok (.ldc2_w 514, 3) := by decide +kernel
theorem dX13_draw_16 : decode cX13_draw 16 = .ok (.lrem, 1) := by decide +kernel
theorem dX13_draw_17 : decode cX13_draw 17 = .ok (.putfield 507, 3) := by decide +kernel
theorem dX13_draw_20 : decode cX13_draw 20 = .ok (.aload_n 0, 1) := by decide +kernel
theorem dX13_draw_21 : decode cX13_draw 21 = .ok (.getfield 507, 3) := by decide +kernel
theorem dX13_draw_24 : decode cX13_draw 24 = .ok (.iload_n 1, 1) := by decide +kernel
theorem dX13_draw_25 : decode cX13_draw 25 = .ok (.i2l, 1) := by decide +kernel
theorem dX13_draw_26 : decode cX13_draw 26 = .ok (.lrem, 1) := by decide +kernel
theorem dX13_draw_27 : decode cX13_draw 27 = .ok (.l2i, 1) := by decide +kernel
theorem dX13_draw_28 : decode cX13_draw 28 = .ok (.ireturn, 1) := by decide +kernel
set_option maxHeartbeats 4000000 in
set_option maxRecDepth 100000 in
theorem k_X13_draw (l : Launch) (D : va_G) (cy : Nat → ClassId) (ld ad : Nat → Nat) (am : Nat) (hD : mz_D ad am) (Fa : Nat → Int32) (Ga : Nat → Int64) (Ra : Nat → Nat → Int32) (Sa : Nat → Nat → Int64) (p1 : Int32) (hIF : mz_IF true Fa) (hIG : mz_IG Ga) (hIR : mz_IR [] true Ra) (hp_0 : 1 ≤ p1.toInt) (hp_1 : p1.toInt ≤ 1000) : Met l yX13_draw (wl yX13_draw cX13_draw 2 (some .int)) ({ frames := 3, cells := 0, slots := 0, locals := 140 }) (mz_p D cy ld ad am Fa Ga Ra Sa [.ref am, .int p1]) (mz_i D cy ad am (fun r F G R S => mz_IF true F ∧ mz_IG G ∧ mz_IR [] true R ∧ (∀ k : Nat, k ∉ ([] : List Nat) → F k = Fa k) ∧ (∀ k : Nat, k ∉ ([] : List Nat) → R k = Ra k) ∧ (∀ k : Nat, k ∉ ([47] : List Nat) → G k = Ga k) ∧ 0 ≤ r.toInt ∧ 0 ≤ p1.toInt + (-1) * r.toInt + (-1) ∧ 0 ≤ r.toInt ∧ r.toInt ≤ 999)) 0 0 (mz_W ad am) := by
  refine mz_met (y := yX13_draw) (cc := cX13_draw) (maxL := 2) (ret := (some .int)) (av := [.ref am, .int p1]) _ (by decide) (Nat.le_of_ble_eq_true rfl) ?_
  intro p e s m args below meth c hx hb hr hml hts htl hown hlocks hK H locs hM hS ls hl
  have hown : s.vm.findClass RX13 = some m.cls := hown
  have hl : lv_has ls 2 [(0, .ref am), (1, .int p1)] := hl
  have hr_p1 := tk_rng p1
  refine lv_aload_n hx hb dX13_draw_0 rfl (lv_at hl 0 rfl) ?_
  refine lv_aload_n hx hb dX13_draw_1 rfl (lv_at hl 0 rfl) ?_
  refine mz_getJ hx hb htl hown hK hM 47 (Nat.le_of_ble_eq_true rfl) rfl (htl _ mw_1386) (fun _ h9 => h9) dX13_draw_2 (fun w1 e_w1 => ?_)
  have hr_w1 : 0 ≤ w1.toInt ∧ w1.toInt ≤ 1000002 := e_w1 ▸ hIG
  refine lv_ldc2 hx hb hown (htl _ mw_1387) dX13_draw_5 ?_
  refine lv_lmul hx hb dX13_draw_8 ?_
  refine tk_lmul rfl (show (1103 : Int64).toInt = 1103 by decide) (by omega) (by omega) (fun w2 h_w2 => ?_)
  refine lv_ldc2 hx hb hown (htl _ mw_1388) dX13_draw_9 ?_
  refine lv_ladd hx hb dX13_draw_12 ?_
  refine tk_ladd rfl (show (12345 : Int64).toInt = 12345 by decide) (by omega) (by omega) (fun w3 h_w3 => ?_)
  refine lv_ldc2 hx hb hown (htl _ mw_1389) dX13_draw_13 ?_
  refine lv_lrem hx hb dX13_draw_16 (by decide) ?_
  refine tk_sayl (P := fun z => 0 ≤ z.toInt ∧ z.toInt < 1000003) (tk_remL rfl (show (1000003 : Int64).toInt = 1000003 by decide) (by omega) (by omega)) (fun w4 h_w4 => ?_)
  refine mz_putJ (ty := .long) (x := w4) hx hb htl hown hK hD hM hS 47 (Nat.le_of_ble_eq_true rfl) rfl (htl _ mw_1386) (fun _ h9 => h9) rfl (tyX13_ok 47 (by decide)) rfl rfl dX13_draw_17 (fun H locs G hM hS hf9 hj9 => ?_)
  have hIG := mz_IG.put47 hf9 (by omega) (by omega)
  have hGG := mz_frp (K := [47]) (Fa := Ga) hj9 (fun _ _ => rfl) (by decide)
  have hf6 := hf9
  refine lv_aload_n hx hb dX13_draw_20 rfl (lv_at hl 0 rfl) ?_
  refine mz_getJ hx hb htl hown hK hM 47 (Nat.le_of_ble_eq_true rfl) rfl (htl _ mw_1386) (fun _ h9 => h9) dX13_draw_21 (fun v9 e9 => ?_)
  refine fx_tl (v := w4) (e9.symm.trans hf6) ?_
  refine lv_iload_n hx hb dX13_draw_24 rfl (lv_at hl 1 rfl) ?_
  obtain ⟨w10, e_w10, h_w10⟩ : ∃ z : Int64, p1.toInt64 = z ∧ z.toInt = p1.toInt := ⟨_, rfl, fl_w _⟩
  refine lv_i2l (v := w10) hx hb dX13_draw_25 e_w10 ?_
  refine lv_lrem hx hb dX13_draw_26 (fun h9 => absurd ((fl_eq rfl (show (0 : Int64).toInt = 0 by decide)).mp h9) (by omega)) ?_
  refine tk_sayl (P := fun z => 0 ≤ z.toInt ∧ z.toInt < w10.toInt) (tk_remL rfl rfl (by omega) (by omega)) (fun w11 h_w11 => ?_)
  obtain ⟨v12, e_v12, h_v12⟩ : ∃ z : Int32, w11.toInt32 = z ∧ z.toInt = w11.toInt := ⟨_, rfl, tk_l2i (by omega) (by omega)⟩
  refine lv_l2i (v := v12) hx hb dX13_draw_27 e_v12 ?_
  exact mz_iret (v := v12) hx hb hr rfl hlocks ⟨hIF, hIG, hIR, (fun _ _ => rfl), (fun _ _ => rfl), hGG, (by omega), (by omega), (by omega), (by omega)⟩ hM hS dX13_draw_28
end
section
theorem hd_yX13_canSing : yX13_canSing.cls ≠ "java/lang/invoke/MethodHandle" ∧ yX13_canSing.cls ≠ "java/lang/invoke/VarHandle" ∧ (parseMethodDescriptor yX13_canSing.desc).map (fun d => d.parameters.length) = some 1 := by decide +kernel
theorem dX13_loudest_0 : decode cX13_loudest 0 = .ok (.iconst (-1), 1) := by decide +kernel
theorem dX13_loudest_1 : decode cX13_loudest 1 = .ok (.istore_n 1, 1) := by decide +kernel
theorem dX13_loudest_2 : decode cX13_loudest 2 = .ok (.iconst (-1), 1) := by decide +kernel
theorem dX13_loudest_3 : decode cX13_loudest 3 = .ok (.istore_n 2, 1) := by decide +kernel
theorem dX13_loudest_4 : decode cX13_loudest 4 = .ok (.iconst 0, 1) := by decide +kernel
theorem dX13_loudest_5 : decode cX13_loudest 5 = .ok (.istore_n 3, 1) := by decide +kernel
theorem dX13_loudest_6 : decode cX13_loudest 6 = .ok (.iload_n 3, 1) := by decide +kernel
theorem dX13_loudest_7 : decode cX13_loudest 7 = .ok (.aload_n 0, 1) := by decide +kernel
theorem dX13_loudest_8 : decode cX13_loudest 8 = .ok (.getfield 13, 3) := by decide +kernel
theorem dX13_loudest_11 : decode cX13_loudest 11 = .ok (.iconst 1, 1) := by decide +kernel
theorem dX13_loudest_12 : decode cX13_loudest 12 = .ok (.iaload, 1) := by decide +kernel
theorem dX13_loudest_13 : decode cX13_loudest 13 = .ok (.if_icmp .ge 53, 3) := by decide +kernel
theorem dX13_loudest_66 : decode cX13_loudest 66 = .ok (.iload_n 1, 1) := by decide +kernel
theorem dX13_loudest_67 : decode cX13_loudest 67 = .ok (.ireturn, 1) := by decide +kernel
theorem dX13_loudest_16 : decode cX13_loudest 16 = .ok (.aload_n 0, 1) := by decide +kernel
theorem dX13_loudest_17 : decode cX13_loudest 17 = .ok (.iload_n 3, 1) := by decide +kernel
theorem dX13_loudest_18 : decode cX13_loudest 18 = .ok (.invokevirtual 501, 3) := by decide +kernel
theorem dX13_loudest_60 : decode cX13_loudest 60 = .ok (.iinc 3 1, 3) := by decide +kernel
theorem dX13_loudest_63 : decode cX13_loudest 63 = .ok (.goto (-57), 3) := by decide +kernel
theorem dX13_loudest_21 : decode cX13_loudest 21 = .ok (.ifCond .eq 39, 3) := by decide +kernel
theorem dX13_loudest_24 : decode cX13_loudest 24 = .ok (.aload_n 0, 1) := by decide +kernel
theorem dX13_loudest_25 : decode cX13_loudest 25 = .ok (.iload_n 3, 1) := by decide +kernel
theorem dX13_loudest_26 : decode cX13_loudest 26 = .ok (.invokevirtual 437, 3) := by decide +kernel
theorem dX13_loudest_29 : decode cX13_loudest 29 = .ok (.aload_n 0, 1) := by decide +kernel
theorem dX13_loudest_30 : decode cX13_loudest 30 = .ok (.invokevirtual 440, 3) := by decide +kernel
theorem dX13_loudest_33 : decode cX13_loudest 33 = .ok (.istore 4, 2) := by decide +kernel
theorem dX13_loudest_35 : decode cX13_loudest 35 = .ok (.iload 4, 2) := by decide +kernel
theorem dX13_loudest_37 : decode cX13_loudest 37 = .ok (.iload_n 2, 1) := by decide +kernel
theorem dX13_loudest_46 : decode cX13_loudest 46 = .ok (.istore_n 1, 1) := by decide +kernel
theorem dX13_loudest_47 : decode cX13_loudest 47 = .ok (.iload 4, 2) := by decide +kernel
theorem dX13_loudest_49 : decode cX13_loudest 49 = .ok (.iload_n 2, 1) := by decide +kernel
theorem dX13_loudest_59 : decode cX13_loudest 59 = .ok (.istore_n 2, 1) := by decide +kernel
theorem dX13_loudest_50 : decode cX13_loudest 50 = .ok (.if_icmp .le 8, 3) := by decide +kernel
theorem dX13_loudest_58 : decode cX13_loudest 58 = .ok (.iload_n 2, 1) := by decide +kernel
theorem dX13_loudest_53 : decode cX13_loudest 53 = .ok (.iload 4, 2) := by decide +kernel
theorem dX13_loudest_55 : decode cX13_loudest 55 = .ok (.goto 4, 3) := by decide +kernel
theorem dX13_loudest_38 : decode cX13_loudest 38 = .ok (.if_icmp .le 7, 3) := by decide +kernel
theorem dX13_loudest_45 : decode cX13_loudest 45 = .ok (.iload_n 1, 1) := by decide +kernel
theorem dX13_loudest_41 : decode cX13_loudest 41 = .ok (.iload_n 3, 1) := by decide +kernel
theorem dX13_loudest_42 : decode cX13_loudest 42 = .ok (.goto 4, 3) := by decide +kernel
set_option maxHeartbeats 4000000 in
set_option maxRecDepth 100000 in
theorem k_X13_loudest (l : Launch) (D : va_G) (cy : Nat → ClassId) (ld ad : Nat → Nat) (am : Nat) (hD : mz_D ad am) (Fa : Nat → Int32) (Ga : Nat → Int64) (Ra : Nat → Nat → Int32) (Sa : Nat → Nat → Int64) (hIF : mz_IF true Fa) (hIG : mz_IG Ga) (hIR : mz_IR [] true Ra) : Met l yX13_loudest (wl yX13_loudest cX13_loudest 5 (some .int)) ({ frames := 10, cells := 0, slots := 0, locals := 630 }) (mz_p D cy ld ad am Fa Ga Ra Sa [.ref am]) (mz_i D cy ad am (fun r F G R S => mz_IF true F ∧ mz_IG G ∧ mz_IR [] true R ∧ (∀ k : Nat, k ∉ ([34, 38] : List Nat) → F k = Fa k) ∧ (∀ k : Nat, k ∉ ([] : List Nat) → R k = Ra k) ∧ (∀ k : Nat, k ∉ ([39, 40] : List Nat) → G k = Ga k) ∧ (-1) ≤ r.toInt ∧ r.toInt ≤ 9)) 0 0 (mz_W ad am) := by
  refine mz_met (y := yX13_loudest) (cc := cX13_loudest) (maxL := 5) (ret := (some .int)) (av := [.ref am]) _ (by decide) (Nat.le_of_ble_eq_true rfl) ?_
  intro p e s m args below meth c hx hb hr hml hts htl hown hlocks hK H locs hM hS ls hl
  have hown : s.vm.findClass RX13 = some m.cls := hown
  have hl : lv_has ls 5 [(0, .ref am)] := hl
  refine lv_iconst (v := (-1)) hx hb dX13_loudest_0 (by decide) ?_
  refine lv_istore_n (lv' := [(1, .int (-1)), (0, .ref am)]) hx hb dX13_loudest_1 rfl hl (by decide) rfl (fun ls hl => ?_)
  refine lv_iconst (v := (-1)) hx hb dX13_loudest_2 (by decide) ?_
  refine lv_istore_n (lv' := [(2, .int (-1)), (1, .int (-1)), (0, .ref am)]) hx hb dX13_loudest_3 rfl hl (by decide) rfl (fun ls hl => ?_)
  refine lv_iconst (v := 0) hx hb dX13_loudest_4 (by decide) ?_
  refine lv_istore_n (lv' := [(3, .int 0), (2, .int (-1)), (1, .int (-1)), (0, .ref am)]) hx hb dX13_loudest_5 rfl hl (by decide) rfl (fun ls hl => ?_)
  have hl745 : ∀ (N_l745 : Nat) (v93 : Int32) (v94 : Int32) (v95 : Int32) (H : Heap) (locs : List Loc) (F : Nat → Int32) (G : Nat → Int64) (R : Nat → Nat → Int32) (S : Nat → Nat → Int64), (v93.toInt ≤ 10) → ((-1) ≤ v94.toInt) → ((-1) ≤ v95.toInt) → (0 ≤ v93.toInt + (-1) * v95.toInt + (-1)) → (v94.toInt ≤ 1000000000) → (mz_S D cy ad am F G R S H) → (va_S (mz_W ad am) s.heap H locs) → (mz_IF true F) → (mz_IG G) → (mz_IR [] true R) → (∀ k : Nat, k ∉ ([34, 38] : List Nat) → F k = Fa k) → (∀ k : Nat, k ∉ ([39, 40] : List Nat) → G k = Ga k) → (∀ k : Nat, k ∉ ([] : List Nat) → R k = Ra k) → ((-1) * v93.toInt + 10 < (N_l745 : Int)) → ∀ ls : Array Slot, lv_has ls 5 [(3, .int v93), (2, .int v94), (1, .int v95), (0, .ref am)] → W p l e ({ frames := 10, cells := 0, slots := 0, locals := 630 }) s m args below meth c H locs 0 0 (MQ below (mz_i D cy ad am (fun r F G R S => mz_IF true F ∧ mz_IG G ∧ mz_IR [] true R ∧ (∀ k : Nat, k ∉ ([34, 38] : List Nat) → F k = Fa k) ∧ (∀ k : Nat, k ∉ ([] : List Nat) → R k = Ra k) ∧ (∀ k : Nat, k ∉ ([39, 40] : List Nat) → G k = Ga k) ∧ (-1) ≤ r.toInt ∧ r.toInt ≤ 9)) args s 0 0 (mz_W ad am)) (F0 m 6 ls []) := by
    intro N_l745
    induction N_l745 with
    | zero => intro v93 v94 v95 H locs F G R S hq0_l745 hq1_l745 hq2_l745 hq3_l745 hq4_l745 hM hS hIF hIG hIR hFF hGG hRR hm_l745 ls hl; exfalso; omega
    | succ N_l745 ih_l745 =>
      intro v93 v94 v95 H locs F G R S hq0_l745 hq1_l745 hq2_l745 hq3_l745 hq4_l745 hM hS hIF hIG hIR hFF hGG hRR hm_l745 ls hl
      refine lv_iload_n hx hb dX13_loudest_6 rfl (lv_at hl 0 rfl) ?_
      refine lv_aload_n hx hb dX13_loudest_7 rfl (lv_at hl 3 rfl) ?_
      refine mz_getR hx hb htl hown hK hM 3 (Nat.le_of_ble_eq_true rfl) (Nat.le_of_ble_eq_true rfl) (htl _ mw_188) (fun _ h9 => h9) dX13_loudest_8 ?_
      refine lv_iconst (v := 1) hx hb dX13_loudest_11 (by decide) ?_
      refine mz_iald hx hb hK hM 3 (Nat.le_of_ble_eq_true rfl) rfl (nn := 5560) rfl (I := 1) (by decide) (by decide) (by decide) dX13_loudest_12 (fun v747 hf746 => ?_)
      have hf746 : R 3 1 = v747 := hf746
      have hq_v747 := tk_rng v747
      have hr_v747 : 0 ≤ v747.toInt ∧ v747.toInt ≤ 10 := by have h9 := mz_r3c 1 (hIR.at 3) hf746 (by decide); unfold mE at h9; omega
      refine lv_icmp_ge (tgt := 66) hx hb dX13_loudest_13 (by decide) (fun c9 => ?_) (fun c9 => ?_)
      · have hc748 : v747.toInt ≤ v93.toInt := (fi_le rfl rfl).mp c9
        refine lv_iload_n hx hb dX13_loudest_66 rfl (lv_at hl 2 rfl) ?_
        exact mz_iret (v := v95) hx hb hr rfl hlocks ⟨hIF, hIG, hIR, hFF, hRR, hGG, (by omega), (by omega)⟩ hM hS dX13_loudest_67
      · have hc748 : ¬ (v747.toInt ≤ v93.toInt) := fun h9 => c9 ((fi_le rfl rfl).mpr h9)
        refine lv_aload_n hx hb dX13_loudest_16 rfl (lv_at hl 3 rfl) ?_
        refine lv_iload_n hx hb dX13_loudest_17 rfl (lv_at hl 0 rfl) ?_
        refine mz_Vi (As := [.int v93]) (rest := []) ⟨hx, hb, hml, hown, hts⟩ hK hM hS (k_X13_canSing l D cy ld ad am hD _ _ _ _ v93 hIF hIG hIR (by omega) (by omega)) ⟨callB_of 1 hts (wl_in mw_1326) rfl rfl rfl (htl _ mw_5) (htl _ mw_1323) hd_yX13_canSing ⟨(Nat.le_of_ble_eq_true rfl), (Nat.le_of_ble_eq_true rfl)⟩, htl _ mw_1324, htl _ mw_1325⟩ rfl hl.1 rfl (Nat.le_of_ble_eq_true rfl) dX13_loudest_18 ⟨(Nat.le_of_ble_eq_true rfl), (Nat.le_of_ble_eq_true rfl)⟩ (fun v790 H locs F G R S hpo hM hS => ?_)
        obtain ⟨hIF, hIG, hIR, hfr9, hrr9, hgr9, hpo791, hpo792, hpo793, hpo794⟩ := hpo
        have hq_v790 := tk_rng v790
        have hFF := mz_fr (K := [34, 38]) (Fa := Fa) hfr9 hFF (by decide)
        have hRR := mz_fr (K := []) (Fa := Ra) hrr9 hRR (by decide)
        have hGG := mz_fr (K := [39, 40]) (Fa := Ga) hgr9 hGG (by decide)
        have hf746 : R 3 1 = _ := (congrFun (hrr9 3 (by decide)) 1).trans hf746
        have hj816 : ∀ (v813 : Int32) (v814 : Int32) (H : Heap) (locs : List Loc) (F : Nat → Int32) (G : Nat → Int64) (R : Nat → Nat → Int32) (S : Nat → Nat → Int64), (v813.toInt ≤ 1000000000) → (0 ≤ v813.toInt + (-1) * v94.toInt) → (0 ≤ (-1) * v814.toInt + v93.toInt) → (0 ≤ v814.toInt + (-1) * v95.toInt) → (mz_S D cy ad am F G R S H) → (va_S (mz_W ad am) s.heap H locs) → (mz_IF true F) → (mz_IG G) → (mz_IR [] true R) → (∀ k : Nat, k ∉ ([34, 38] : List Nat) → F k = Fa k) → (∀ k : Nat, k ∉ ([39, 40] : List Nat) → G k = Ga k) → (∀ k : Nat, k ∉ ([] : List Nat) → R k = Ra k) → (R 3 1 = v747) → ∀ ls : Array Slot, lv_has ls 5 [(3, .int v93), (2, .int v813), (1, .int v814), (0, .ref am)] → W p l e ({ frames := 10, cells := 0, slots := 0, locals := 630 }) s m args below meth c H locs 0 0 (MQ below (mz_i D cy ad am (fun r F G R S => mz_IF true F ∧ mz_IG G ∧ mz_IR [] true R ∧ (∀ k : Nat, k ∉ ([34, 38] : List Nat) → F k = Fa k) ∧ (∀ k : Nat, k ∉ ([] : List Nat) → R k = Ra k) ∧ (∀ k : Nat, k ∉ ([39, 40] : List Nat) → G k = Ga k) ∧ (-1) ≤ r.toInt ∧ r.toInt ≤ 9)) args s 0 0 (mz_W ad am)) (F0 m 60 ls []) := by
          intro v813 v814 H locs F G R S hq0_j816 hq1_j816 hq2_j816 hq3_j816 hM hS hIF hIG hIR hFF hGG hRR hf746 ls hl
          obtain ⟨v817, h_v817, e_v817⟩ := tk_inc v93 1 (by decide) (by omega) (by omega)
          refine lv_iinc (v := v817) (lv' := [(3, .int v817), (2, .int v813), (1, .int v814), (0, .ref am)]) hx hb dX13_loudest_60 hl (k := 0) rfl e_v817 (by decide) rfl (fun ls hl => ?_)
          refine lv_goto (tgt := 6) hx hb dX13_loudest_63 (by decide) ?_
          exact ih_l745 v817 v813 v814 _ _ _ _ _ _ (by omega) (by omega) (by omega) (by omega) (by omega) hM hS hIF hIG hIR hFF hGG hRR (by omega) _ (lv_sub hl [0, 1, 2, 3] rfl)
        refine lv_if_eq (tgt := 60) hx hb dX13_loudest_21 (by decide) (fun c9 => ?_) (fun c9 => ?_)
        · have hc796 : v790.toInt = 0 := (fi_eq rfl (show (0 : Int32).toInt = 0 by decide)).mp c9
          exact hj816 v94 v95 _ _ _ _ _ _ (by omega) (by omega) (by omega) (by omega) hM hS hIF hIG hIR hFF hGG hRR hf746 _ (lv_sub hl [0, 1, 2, 3] rfl)
        · have hc796 : ¬ (v790.toInt = 0) := fun h9 => c9 ((fi_eq rfl (show (0 : Int32).toInt = 0 by decide)).mpr h9)
          refine lv_aload_n hx hb dX13_loudest_24 rfl (lv_at hl 3 rfl) ?_
          refine lv_iload_n hx hb dX13_loudest_25 rfl (lv_at hl 0 rfl) ?_
          refine mz_Vv (As := [.int v93]) (rest := []) ⟨hx, hb, hml, hown, hts⟩ hK hM hS (k_X13_layVerse l D cy ld ad am hD _ _ _ _ v93 hIF hIG hIR (by omega) (by omega)) ⟨callB_of 1 hts (wl_in mw_1091) rfl rfl rfl (htl _ mw_5) (htl _ mw_1088) hd_yX13_layVerse ⟨(Nat.le_of_ble_eq_true rfl), (Nat.le_of_ble_eq_true rfl)⟩, htl _ mw_1089, htl _ mw_1090⟩ rfl hl.1 rfl (Nat.le_of_ble_eq_true rfl) dX13_loudest_26 ⟨(Nat.le_of_ble_eq_true rfl), (Nat.le_of_ble_eq_true rfl)⟩ (fun H locs F G R S hpo hM hS => ?_)
          obtain ⟨hIF, hIG, hIR, hfr9, hrr9, hgr9⟩ := hpo
          have hFF := mz_fr (K := [34, 38]) (Fa := Fa) hfr9 hFF (by decide)
          have hRR := mz_fr (K := []) (Fa := Ra) hrr9 hRR (by decide)
          have hGG := mz_fr (K := [39, 40]) (Fa := Ga) hgr9 hGG (by decide)
          have hf746 : R 3 1 = _ := (congrFun (hrr9 3 (by decide)) 1).trans hf746
          refine lv_aload_n hx hb dX13_loudest_29 rfl (lv_at hl 3 rfl) ?_
          refine mz_Vi (As := []) (rest := []) ⟨hx, hb, hml, hown, hts⟩ hK hM hS (k_X13_lullsSet l D cy ld ad am hD _ _ _ _ hIF hIG hIR) ⟨callB_of 0 hts (wl_in mw_1121) rfl rfl rfl (htl _ mw_5) (htl _ mw_1118) hd_yX13_lullsSet ⟨(Nat.le_of_ble_eq_true rfl), (Nat.le_of_ble_eq_true rfl)⟩, htl _ mw_1119, htl _ mw_1120⟩ rfl hl.1 rfl (Nat.le_of_ble_eq_true rfl) dX13_loudest_30 ⟨(Nat.le_of_ble_eq_true rfl), (Nat.le_of_ble_eq_true rfl)⟩ (fun v819 H locs F G R S hpo hM hS => ?_)
          obtain ⟨hIF, hIG, hIR, hfr9, hrr9, hgr9, hpo820, hpo821⟩ := hpo
          have hq_v819 := tk_rng v819
          have hFF := mz_fr (K := [34, 38]) (Fa := Fa) hfr9 hFF (by decide)
          have hRR := mz_fr (K := []) (Fa := Ra) hrr9 hRR (by decide)
          have hGG := mz_fr (K := [39, 40]) (Fa := Ga) hgr9 hGG (by decide)
          have hf746 : R 3 1 = _ := (congrFun (hrr9 3 (by decide)) 1).trans hf746
          refine lv_istore (lv' := [(4, .int v819), (3, .int v93), (2, .int v94), (1, .int v95), (0, .ref am)]) hx hb dX13_loudest_33 hl (by decide) rfl (fun ls hl => ?_)
          refine lv_iload hx hb dX13_loudest_35 (lv_at hl 0 rfl) ?_
          refine lv_iload_n hx hb dX13_loudest_37 rfl (lv_at hl 2 rfl) ?_
          have hj826 : ∀ (v825 : Int32), (0 ≤ (-1) * v825.toInt + v93.toInt) → (0 ≤ v825.toInt + (-1) * v95.toInt) → ∀ ls : Array Slot, lv_has ls 5 [(4, .int v819), (3, .int v93), (2, .int v94), (0, .ref am)] → W p l e ({ frames := 10, cells := 0, slots := 0, locals := 630 }) s m args below meth c H locs 0 0 (MQ below (mz_i D cy ad am (fun r F G R S => mz_IF true F ∧ mz_IG G ∧ mz_IR [] true R ∧ (∀ k : Nat, k ∉ ([34, 38] : List Nat) → F k = Fa k) ∧ (∀ k : Nat, k ∉ ([] : List Nat) → R k = Ra k) ∧ (∀ k : Nat, k ∉ ([39, 40] : List Nat) → G k = Ga k) ∧ (-1) ≤ r.toInt ∧ r.toInt ≤ 9)) args s 0 0 (mz_W ad am)) (F0 m 46 ls [.int v825]) := by
            intro v825 hq0_j826 hq1_j826 ls hl
            refine lv_istore_n (lv' := [(1, .int v825), (4, .int v819), (3, .int v93), (2, .int v94), (0, .ref am)]) hx hb dX13_loudest_46 rfl hl (by decide) rfl (fun ls hl => ?_)
            refine lv_iload hx hb dX13_loudest_47 (lv_at hl 1 rfl) ?_
            refine lv_iload_n hx hb dX13_loudest_49 rfl (lv_at hl 3 rfl) ?_
            have hj830 : ∀ (v829 : Int32), (v829.toInt ≤ 1000000000) → (0 ≤ (-1) * v819.toInt + v829.toInt) → (0 ≤ v829.toInt + (-1) * v94.toInt) → ∀ ls : Array Slot, lv_has ls 5 [(1, .int v825), (3, .int v93), (0, .ref am)] → W p l e ({ frames := 10, cells := 0, slots := 0, locals := 630 }) s m args below meth c H locs 0 0 (MQ below (mz_i D cy ad am (fun r F G R S => mz_IF true F ∧ mz_IG G ∧ mz_IR [] true R ∧ (∀ k : Nat, k ∉ ([34, 38] : List Nat) → F k = Fa k) ∧ (∀ k : Nat, k ∉ ([] : List Nat) → R k = Ra k) ∧ (∀ k : Nat, k ∉ ([39, 40] : List Nat) → G k = Ga k) ∧ (-1) ≤ r.toInt ∧ r.toInt ≤ 9)) args s 0 0 (mz_W ad am)) (F0 m 59 ls [.int v829]) := by
              intro v829 hq0_j830 hq1_j830 hq2_j830 ls hl
              refine lv_istore_n (lv' := [(2, .int v829), (1, .int v825), (3, .int v93), (0, .ref am)]) hx hb dX13_loudest_59 rfl hl (by decide) rfl (fun ls hl => ?_)
              exact hj816 v829 v825 _ _ _ _ _ _ (by omega) (by omega) (by omega) (by omega) hM hS hIF hIG hIR hFF hGG hRR hf746 _ (lv_sub hl [2, 0, 1, 3] rfl)
            refine lv_icmp_le (tgt := 58) hx hb dX13_loudest_50 (by decide) (fun c9 => ?_) (fun c9 => ?_)
            · have hc827 : v819.toInt ≤ v94.toInt := (fi_le rfl rfl).mp c9
              refine lv_iload_n hx hb dX13_loudest_58 rfl (lv_at hl 3 rfl) ?_
              exact hj830 v94 (by omega) (by omega) (by omega) _ (lv_sub hl [0, 2, 4] rfl)
            · have hc827 : ¬ (v819.toInt ≤ v94.toInt) := fun h9 => c9 ((fi_le rfl rfl).mpr h9)
              refine lv_iload hx hb dX13_loudest_53 (lv_at hl 1 rfl) ?_
              refine lv_goto (tgt := 59) hx hb dX13_loudest_55 (by decide) ?_
              exact hj830 v819 (by omega) (by omega) (by omega) _ (lv_sub hl [0, 2, 4] rfl)
          refine lv_icmp_le (tgt := 45) hx hb dX13_loudest_38 (by decide) (fun c9 => ?_) (fun c9 => ?_)
          · have hc823 : v819.toInt ≤ v94.toInt := (fi_le rfl rfl).mp c9
            refine lv_iload_n hx hb dX13_loudest_45 rfl (lv_at hl 3 rfl) ?_
            exact hj826 v95 (by omega) (by omega) _ (lv_sub hl [0, 1, 2, 4] rfl)
          · have hc823 : ¬ (v819.toInt ≤ v94.toInt) := fun h9 => c9 ((fi_le rfl rfl).mpr h9)
            refine lv_iload_n hx hb dX13_loudest_41 rfl (lv_at hl 1 rfl) ?_
            refine lv_goto (tgt := 46) hx hb dX13_loudest_42 (by decide) ?_
            exact hj826 v93 (by omega) (by omega) _ (lv_sub hl [0, 1, 2, 4] rfl)
  have hk_0 : (0 : Int32).toInt = 0 := by decide
  have hk_m1 : ((-1) : Int32).toInt = (-1) := by decide
  have hk_m1 : ((-1) : Int32).toInt = (-1) := by decide
  exact hl745 11 0 (-1) (-1) _ _ _ _ _ _ (by omega) (by omega) (by omega) (by omega) (by omega) hM hS hIF hIG hIR (fun _ _ => rfl) (fun _ _ => rfl) (fun _ _ => rfl) (by omega) _ (lv_sub hl [0, 1, 2, 3] rfl)
end
section
theorem hd_yX13_draw : yX13_draw.cls ≠ "java/lang/invoke/MethodHandle" ∧ yX13_draw.cls ≠ "java/lang/invoke/VarHandle" ∧ (parseMethodDescriptor yX13_draw.desc).map (fun d => d.parameters.length) = some 1 := by decide +kernel
theorem dX13_drawVerse_0 : decode cX13_drawVerse 0 = .ok (.iconst 0, 1) := by decide +kernel
theorem dX13_drawVerse_1 : decode cX13_drawVerse 1 = .ok (.istore_n 1, 1) := by decide +kernel
theorem dX13_drawVerse_2 : decode cX13_drawVerse 2 = .ok (.iconst 0, 1) := by decide +kernel
theorem dX13_drawVerse_3 : decode cX13_drawVerse 3 = .ok (.istore_n 2, 1) := by decide +kernel
theorem dX13_drawVerse_4 : decode cX13_drawVerse 4 = .ok (.iload_n 2, 1) := by decide +kernel
theorem dX13_drawVerse_5 : decode cX13_drawVerse 5 = .ok (.aload_n 0, 1) := by decide +kernel
theorem dX13_drawVerse_6 : decode cX13_drawVerse 6 = .ok (.getfield 13, 3) := by decide +kernel
theorem dX13_drawVerse_9 : decode cX13_drawVerse 9 = .ok (.iconst 1, 1) := by decide +kernel
theorem dX13_drawVerse_10 : decode cX13_drawVerse 10 = .ok (.iaload, 1) := by decide +kernel
theorem dX13_drawVerse_11 : decode cX13_drawVerse 11 = .ok (.if_icmp .ge 25, 3) := by decide +kernel
theorem dX13_drawVerse_36 : decode cX13_drawVerse 36 = .ok (.iload_n 1, 1) := by decide +kernel
theorem dX13_drawVerse_49 : decode cX13_drawVerse 49 = .ok (.istore_n 2, 1) := by decide +kernel
theorem dX13_drawVerse_50 : decode cX13_drawVerse 50 = .ok (.iconst 0, 1) := by decide +kernel
theorem dX13_drawVerse_51 : decode cX13_drawVerse 51 = .ok (.istore_n 3, 1) := by decide +kernel
theorem dX13_drawVerse_52 : decode cX13_drawVerse 52 = .ok (.iload_n 3, 1) := by decide +kernel
theorem dX13_drawVerse_53 : decode cX13_drawVerse 53 = .ok (.aload_n 0, 1) := by decide +kernel
theorem dX13_drawVerse_54 : decode cX13_drawVerse 54 = .ok (.getfield 13, 3) := by decide +kernel
theorem dX13_drawVerse_57 : decode cX13_drawVerse 57 = .ok (.iconst 1, 1) := by decide +kernel
theorem dX13_drawVerse_58 : decode cX13_drawVerse 58 = .ok (.iaload, 1) := by decide +kernel
theorem dX13_drawVerse_59 : decode cX13_drawVerse 59 = .ok (.if_icmp .ge 30, 3) := by decide +kernel
theorem dX13_drawVerse_89 : decode cX13_drawVerse 89 = .ok (.iconst (-1), 1) := by decide +kernel
theorem dX13_drawVerse_90 : decode cX13_drawVerse 90 = .ok (.ireturn, 1) := by decide +kernel
theorem dX13_drawVerse_62 : decode cX13_drawVerse 62 = .ok (.iload_n 1, 1) := by decide +kernel
theorem dX13_drawVerse_63 : decode cX13_drawVerse 63 = .ok (.ifCond .le 26, 3) := by decide +kernel
theorem dX13_drawVerse_66 : decode cX13_drawVerse 66 = .ok (.aload_n 0, 1) := by decide +kernel
theorem dX13_drawVerse_67 : decode cX13_drawVerse 67 = .ok (.iload_n 3, 1) := by decide +kernel
theorem dX13_drawVerse_68 : decode cX13_drawVerse 68 = .ok (.invokevirtual 501, 3) := by decide +kernel
theorem dX13_drawVerse_71 : decode cX13_drawVerse 71 = .ok (.ifCond .eq 12, 3) := by decide +kernel
theorem dX13_drawVerse_83 : decode cX13_drawVerse 83 = .ok (.iinc 3 1, 3) := by decide +kernel
theorem dX13_drawVerse_86 : decode cX13_drawVerse 86 = .ok (.goto (-34), 3) := by decide +kernel
theorem dX13_drawVerse_74 : decode cX13_drawVerse 74 = .ok (.iload_n 2, 1) := by decide +kernel
theorem dX13_drawVerse_75 : decode cX13_drawVerse 75 = .ok (.ifCond .ne 5, 3) := by decide +kernel
theorem dX13_drawVerse_80 : decode cX13_drawVerse 80 = .ok (.iinc 2 (-1), 3) := by decide +kernel
theorem dX13_drawVerse_78 : decode cX13_drawVerse 78 = .ok (.iload_n 3, 1) := by decide +kernel
theorem dX13_drawVerse_79 : decode cX13_drawVerse 79 = .ok (.ireturn, 1) := by decide +kernel
theorem dX13_drawVerse_37 : decode cX13_drawVerse 37 = .ok (.ifCond .ne 7, 3) := by decide +kernel
theorem dX13_drawVerse_44 : decode cX13_drawVerse 44 = .ok (.aload_n 0, 1) := by decide +kernel
theorem dX13_drawVerse_45 : decode cX13_drawVerse 45 = .ok (.iload_n 1, 1) := by decide +kernel
theorem dX13_drawVerse_46 : decode cX13_drawVerse 46 = .ok (.invokevirtual 516, 3) := by decide +kernel
theorem dX13_drawVerse_40 : decode cX13_drawVerse 40 = .ok (.iconst 0, 1) := by decide +kernel
theorem dX13_drawVerse_41 : decode cX13_drawVerse 41 = .ok (.goto 8, 3) := by decide +kernel
theorem dX13_drawVerse_14 : decode cX13_drawVerse 14 = .ok (.iload_n 1, 1) := by decide +kernel
theorem dX13_drawVerse_15 : decode cX13_drawVerse 15 = .ok (.aload_n 0, 1) := by decide +kernel
theorem dX13_drawVerse_16 : decode cX13_drawVerse 16 = .ok (.iload_n 2, 1) := by decide +kernel
theorem dX13_drawVerse_17 : decode cX13_drawVerse 17 = .ok (.invokevirtual 501, 3) := by decide +kernel
theorem dX13_drawVerse_28 : decode cX13_drawVerse 28 = .ok (.iadd, 1) := by decide +kernel
theorem dX13_drawVerse_29 : decode cX13_drawVerse 29 = .ok (.istore_n 1, 1) := by decide +kernel
theorem dX13_drawVerse_30 : decode cX13_drawVerse 30 = .ok (.iinc 2 1, 3) := by decide +kernel
theorem dX13_drawVerse_33 : decode cX13_drawVerse 33 = .ok (.goto (-29), 3) := by decide +kernel
theorem dX13_drawVerse_20 : decode cX13_drawVerse 20 = .ok (.ifCond .eq 7, 3) := by decide +kernel
theorem dX13_drawVerse_27 : decode cX13_drawVerse 27 = .ok (.iconst 0, 1) := by decide +kernel
theorem dX13_drawVerse_23 : decode cX13_drawVerse 23 = .ok (.iconst 1, 1) := by decide +kernel
theorem dX13_drawVerse_24 : decode cX13_drawVerse 24 = .ok (.goto 4, 3) := by decide +kernel
set_option maxHeartbeats 4000000 in
set_option maxRecDepth 100000 in
theorem k_X13_drawVerse (l : Launch) (D : va_G) (cy : Nat → ClassId) (ld ad : Nat → Nat) (am : Nat) (hD : mz_D ad am) (Fa : Nat → Int32) (Ga : Nat → Int64) (Ra : Nat → Nat → Int32) (Sa : Nat → Nat → Int64) (hIF : mz_IF true Fa) (hIG : mz_IG Ga) (hIR : mz_IR [] true Ra) : Met l yX13_drawVerse (wl yX13_drawVerse cX13_drawVerse 4 (some .int)) ({ frames := 10, cells := 0, slots := 0, locals := 630 }) (mz_p D cy ld ad am Fa Ga Ra Sa [.ref am]) (mz_i D cy ad am (fun r F G R S => mz_IF true F ∧ mz_IG G ∧ mz_IR [] true R ∧ (∀ k : Nat, k ∉ ([34, 38] : List Nat) → F k = Fa k) ∧ (∀ k : Nat, k ∉ ([] : List Nat) → R k = Ra k) ∧ (∀ k : Nat, k ∉ ([39, 40, 47] : List Nat) → G k = Ga k) ∧ (-1) ≤ r.toInt ∧ r.toInt ≤ 9)) 0 0 (mz_W ad am) := by
  refine mz_met (y := yX13_drawVerse) (cc := cX13_drawVerse) (maxL := 4) (ret := (some .int)) (av := [.ref am]) _ (by decide) (Nat.le_of_ble_eq_true rfl) ?_
  intro p e s m args below meth c hx hb hr hml hts htl hown hlocks hK H locs hM hS ls hl
  have hown : s.vm.findClass RX13 = some m.cls := hown
  have hl : lv_has ls 4 [(0, .ref am)] := hl
  refine lv_iconst (v := 0) hx hb dX13_drawVerse_0 (by decide) ?_
  refine lv_istore_n (lv' := [(1, .int 0), (0, .ref am)]) hx hb dX13_drawVerse_1 rfl hl (by decide) rfl (fun ls hl => ?_)
  refine lv_iconst (v := 0) hx hb dX13_drawVerse_2 (by decide) ?_
  refine lv_istore_n (lv' := [(2, .int 0), (1, .int 0), (0, .ref am)]) hx hb dX13_drawVerse_3 rfl hl (by decide) rfl (fun ls hl => ?_)
  have hl1193 : ∀ (N_l1193 : Nat) (v176 : Int32) (v177 : Int32) (H : Heap) (locs : List Loc) (F : Nat → Int32) (G : Nat → Int64) (R : Nat → Nat → Int32) (S : Nat → Nat → Int64), (v176.toInt ≤ 10) → (0 ≤ v177.toInt) → (0 ≤ v176.toInt + (-1) * v177.toInt) → (mz_S D cy ad am F G R S H) → (va_S (mz_W ad am) s.heap H locs) → (mz_IF true F) → (mz_IG G) → (mz_IR [] true R) → (∀ k : Nat, k ∉ ([34, 38] : List Nat) → F k = Fa k) → (∀ k : Nat, k ∉ ([39, 40, 47] : List Nat) → G k = Ga k) → (∀ k : Nat, k ∉ ([] : List Nat) → R k = Ra k) → ((-1) * v176.toInt + 10 < (N_l1193 : Int)) → ∀ ls : Array Slot, lv_has ls 4 [(2, .int v176), (1, .int v177), (0, .ref am)] → W p l e ({ frames := 10, cells := 0, slots := 0, locals := 630 }) s m args below meth c H locs 0 0 (MQ below (mz_i D cy ad am (fun r F G R S => mz_IF true F ∧ mz_IG G ∧ mz_IR [] true R ∧ (∀ k : Nat, k ∉ ([34, 38] : List Nat) → F k = Fa k) ∧ (∀ k : Nat, k ∉ ([] : List Nat) → R k = Ra k) ∧ (∀ k : Nat, k ∉ ([39, 40, 47] : List Nat) → G k = Ga k) ∧ (-1) ≤ r.toInt ∧ r.toInt ≤ 9)) args s 0 0 (mz_W ad am)) (F0 m 4 ls []) := by
    intro N_l1193
    induction N_l1193 with
    | zero => intro v176 v177 H locs F G R S hq0_l1193 hq1_l1193 hq2_l1193 hM hS hIF hIG hIR hFF hGG hRR hm_l1193 ls hl; exfalso; omega
    | succ N_l1193 ih_l1193 =>
      intro v176 v177 H locs F G R S hq0_l1193 hq1_l1193 hq2_l1193 hM hS hIF hIG hIR hFF hGG hRR hm_l1193 ls hl
      refine lv_iload_n hx hb dX13_drawVerse_4 rfl (lv_at hl 0 rfl) ?_
      refine lv_aload_n hx hb dX13_drawVerse_5 rfl (lv_at hl 2 rfl) ?_
      refine mz_getR hx hb htl hown hK hM 3 (Nat.le_of_ble_eq_true rfl) (Nat.le_of_ble_eq_true rfl) (htl _ mw_188) (fun _ h9 => h9) dX13_drawVerse_6 ?_
      refine lv_iconst (v := 1) hx hb dX13_drawVerse_9 (by decide) ?_
      refine mz_iald hx hb hK hM 3 (Nat.le_of_ble_eq_true rfl) rfl (nn := 5560) rfl (I := 1) (by decide) (by decide) (by decide) dX13_drawVerse_10 (fun v1195 hf1194 => ?_)
      have hf1194 : R 3 1 = v1195 := hf1194
      have hq_v1195 := tk_rng v1195
      have hr_v1195 : 0 ≤ v1195.toInt ∧ v1195.toInt ≤ 10 := by have h9 := mz_r3c 1 (hIR.at 3) hf1194 (by decide); unfold mE at h9; omega
      refine lv_icmp_ge (tgt := 36) hx hb dX13_drawVerse_11 (by decide) (fun c9 => ?_) (fun c9 => ?_)
      · have hc1196 : v1195.toInt ≤ v176.toInt := (fi_le rfl rfl).mp c9
        refine lv_iload_n hx hb dX13_drawVerse_36 rfl (lv_at hl 1 rfl) ?_
        have hj1220 : ∀ (v1218 : Int32) (H : Heap) (locs : List Loc) (F : Nat → Int32) (G : Nat → Int64) (R : Nat → Nat → Int32) (S : Nat → Nat → Int64), (0 ≤ v1218.toInt) → (v1218.toInt ≤ 9) → (0 ≤ (-1) * v1218.toInt + v177.toInt) → (mz_S D cy ad am F G R S H) → (va_S (mz_W ad am) s.heap H locs) → (mz_IF true F) → (mz_IG G) → (mz_IR [] true R) → (∀ k : Nat, k ∉ ([34, 38] : List Nat) → F k = Fa k) → (∀ k : Nat, k ∉ ([39, 40, 47] : List Nat) → G k = Ga k) → (∀ k : Nat, k ∉ ([] : List Nat) → R k = Ra k) → (R 3 1 = v1195) → ∀ ls : Array Slot, lv_has ls 4 [(1, .int v177), (0, .ref am)] → W p l e ({ frames := 10, cells := 0, slots := 0, locals := 630 }) s m args below meth c H locs 0 0 (MQ below (mz_i D cy ad am (fun r F G R S => mz_IF true F ∧ mz_IG G ∧ mz_IR [] true R ∧ (∀ k : Nat, k ∉ ([34, 38] : List Nat) → F k = Fa k) ∧ (∀ k : Nat, k ∉ ([] : List Nat) → R k = Ra k) ∧ (∀ k : Nat, k ∉ ([39, 40, 47] : List Nat) → G k = Ga k) ∧ (-1) ≤ r.toInt ∧ r.toInt ≤ 9)) args s 0 0 (mz_W ad am)) (F0 m 49 ls [.int v1218]) := by
          intro v1218 H locs F G R S hq0_j1220 hq1_j1220 hq2_j1220 hM hS hIF hIG hIR hFF hGG hRR hf1194 ls hl
          refine lv_istore_n (lv' := [(2, .int v1218), (1, .int v177), (0, .ref am)]) hx hb dX13_drawVerse_49 rfl hl (by decide) rfl (fun ls hl => ?_)
          refine lv_iconst (v := 0) hx hb dX13_drawVerse_50 (by decide) ?_
          refine lv_istore_n (lv' := [(3, .int 0), (2, .int v1218), (1, .int v177), (0, .ref am)]) hx hb dX13_drawVerse_51 rfl hl (by decide) rfl (fun ls hl => ?_)
          have hl1315 : ∀ (N_l1315 : Nat) (v1221 : Int32) (v1222 : Int32) (H : Heap) (locs : List Loc) (F : Nat → Int32) (G : Nat → Int64) (R : Nat → Nat → Int32) (S : Nat → Nat → Int64), (0 ≤ v1221.toInt) → (0 ≤ v1222.toInt) → (0 ≤ v1195.toInt + (-1) * v1221.toInt) → (0 ≤ v1218.toInt + (-1) * v1222.toInt) → (mz_S D cy ad am F G R S H) → (va_S (mz_W ad am) s.heap H locs) → (mz_IF true F) → (mz_IG G) → (mz_IR [] true R) → (∀ k : Nat, k ∉ ([34, 38] : List Nat) → F k = Fa k) → (∀ k : Nat, k ∉ ([39, 40, 47] : List Nat) → G k = Ga k) → (∀ k : Nat, k ∉ ([] : List Nat) → R k = Ra k) → (R 3 1 = v1195) → ((-1) * v1221.toInt + 10 < (N_l1315 : Int)) → ∀ ls : Array Slot, lv_has ls 4 [(3, .int v1221), (2, .int v1222), (1, .int v177), (0, .ref am)] → W p l e ({ frames := 10, cells := 0, slots := 0, locals := 630 }) s m args below meth c H locs 0 0 (MQ below (mz_i D cy ad am (fun r F G R S => mz_IF true F ∧ mz_IG G ∧ mz_IR [] true R ∧ (∀ k : Nat, k ∉ ([34, 38] : List Nat) → F k = Fa k) ∧ (∀ k : Nat, k ∉ ([] : List Nat) → R k = Ra k) ∧ (∀ k : Nat, k ∉ ([39, 40, 47] : List Nat) → G k = Ga k) ∧ (-1) ≤ r.toInt ∧ r.toInt ≤ 9)) args s 0 0 (mz_W ad am)) (F0 m 52 ls []) := by
            intro N_l1315
            induction N_l1315 with
            | zero => intro v1221 v1222 H locs F G R S hq0_l1315 hq1_l1315 hq2_l1315 hq3_l1315 hM hS hIF hIG hIR hFF hGG hRR hf1194 hm_l1315 ls hl; exfalso; omega
            | succ N_l1315 ih_l1315 =>
              intro v1221 v1222 H locs F G R S hq0_l1315 hq1_l1315 hq2_l1315 hq3_l1315 hM hS hIF hIG hIR hFF hGG hRR hf1194 hm_l1315 ls hl
              refine lv_iload_n hx hb dX13_drawVerse_52 rfl (lv_at hl 0 rfl) ?_
              refine lv_aload_n hx hb dX13_drawVerse_53 rfl (lv_at hl 3 rfl) ?_
              refine mz_getR hx hb htl hown hK hM 3 (Nat.le_of_ble_eq_true rfl) (Nat.le_of_ble_eq_true rfl) (htl _ mw_188) (fun _ h9 => h9) dX13_drawVerse_54 ?_
              refine lv_iconst (v := 1) hx hb dX13_drawVerse_57 (by decide) ?_
              refine mz_iald hx hb hK hM 3 (Nat.le_of_ble_eq_true rfl) rfl (nn := 5560) rfl (I := 1) (by decide) (by decide) (by decide) dX13_drawVerse_58 (fun v9 e9 => ?_)
              refine fx_ti (v := v1195) (e9.symm.trans (show R 3 (1 : Int32).toNatClampNeg = _ from hf1194)) ?_
              refine lv_icmp_ge (tgt := 89) hx hb dX13_drawVerse_59 (by decide) (fun c9 => ?_) (fun c9 => ?_)
              · have hc1316 : v1195.toInt ≤ v1221.toInt := (fi_le rfl rfl).mp c9
                refine lv_iconst (v := (-1)) hx hb dX13_drawVerse_89 (by decide) ?_
                have hk_m1 : ((-1) : Int32).toInt = (-1) := by decide
                exact mz_iret (v := (-1)) hx hb hr rfl hlocks ⟨hIF, hIG, hIR, hFF, hRR, hGG, (by omega), (by omega)⟩ hM hS dX13_drawVerse_90
              · have hc1316 : ¬ (v1195.toInt ≤ v1221.toInt) := fun h9 => c9 ((fi_le rfl rfl).mpr h9)
                refine lv_iload_n hx hb dX13_drawVerse_62 rfl (lv_at hl 2 rfl) ?_
                refine lv_if_le (tgt := 89) hx hb dX13_drawVerse_63 (by decide) (fun c9 => ?_) (fun c9 => ?_)
                · have hc1317 : v177.toInt ≤ 0 := (fi_le rfl (show (0 : Int32).toInt = 0 by decide)).mp c9
                  refine lv_iconst (v := (-1)) hx hb dX13_drawVerse_89 (by decide) ?_
                  have hk_m1 : ((-1) : Int32).toInt = (-1) := by decide
                  exact mz_iret (v := (-1)) hx hb hr rfl hlocks ⟨hIF, hIG, hIR, hFF, hRR, hGG, (by omega), (by omega)⟩ hM hS dX13_drawVerse_90
                · have hc1317 : ¬ (v177.toInt ≤ 0) := fun h9 => c9 ((fi_le rfl (show (0 : Int32).toInt = 0 by decide)).mpr h9)
                  refine lv_aload_n hx hb dX13_drawVerse_66 rfl (lv_at hl 3 rfl) ?_
                  refine lv_iload_n hx hb dX13_drawVerse_67 rfl (lv_at hl 0 rfl) ?_
                  refine mz_Vi (As := [.int v1221]) (rest := []) ⟨hx, hb, hml, hown, hts⟩ hK hM hS (k_X13_canSing l D cy ld ad am hD _ _ _ _ v1221 hIF hIG hIR (by omega) (by omega)) ⟨callB_of 1 hts (wl_in mw_1326) rfl rfl rfl (htl _ mw_5) (htl _ mw_1323) hd_yX13_canSing ⟨(Nat.le_of_ble_eq_true rfl), (Nat.le_of_ble_eq_true rfl)⟩, htl _ mw_1324, htl _ mw_1325⟩ rfl hl.1 rfl (Nat.le_of_ble_eq_true rfl) dX13_drawVerse_68 ⟨(Nat.le_of_ble_eq_true rfl), (Nat.le_of_ble_eq_true rfl)⟩ (fun v1318 H locs F G R S hpo hM hS => ?_)
                  obtain ⟨hIF, hIG, hIR, hfr9, hrr9, hgr9, hpo1319, hpo1320, hpo1321, hpo1322⟩ := hpo
                  have hq_v1318 := tk_rng v1318
                  have hFF := mz_fr (K := [34, 38]) (Fa := Fa) hfr9 hFF (by decide)
                  have hRR := mz_fr (K := []) (Fa := Ra) hrr9 hRR (by decide)
                  have hGG := mz_fr (K := [39, 40, 47]) (Fa := Ga) hgr9 hGG (by decide)
                  have hf1194 : R 3 1 = _ := (congrFun (hrr9 3 (by decide)) 1).trans hf1194
                  refine lv_if_eq (tgt := 83) hx hb dX13_drawVerse_71 (by decide) (fun c9 => ?_) (fun c9 => ?_)
                  · have hc1324 : v1318.toInt = 0 := (fi_eq rfl (show (0 : Int32).toInt = 0 by decide)).mp c9
                    obtain ⟨v1325, h_v1325, e_v1325⟩ := tk_inc v1221 1 (by decide) (by omega) (by omega)
                    refine lv_iinc (v := v1325) (lv' := [(3, .int v1325), (2, .int v1222), (1, .int v177), (0, .ref am)]) hx hb dX13_drawVerse_83 hl (k := 0) rfl e_v1325 (by decide) rfl (fun ls hl => ?_)
                    refine lv_goto (tgt := 52) hx hb dX13_drawVerse_86 (by decide) ?_
                    exact ih_l1315 v1325 v1222 _ _ _ _ _ _ (by omega) (by omega) (by omega) (by omega) hM hS hIF hIG hIR hFF hGG hRR hf1194 (by omega) _ (lv_sub hl [0, 1, 2, 3] rfl)
                  · have hc1324 : ¬ (v1318.toInt = 0) := fun h9 => c9 ((fi_eq rfl (show (0 : Int32).toInt = 0 by decide)).mpr h9)
                    refine lv_iload_n hx hb dX13_drawVerse_74 rfl (lv_at hl 1 rfl) ?_
                    refine lv_if_ne (tgt := 80) hx hb dX13_drawVerse_75 (by decide) (fun c9 => ?_) (fun c9 => ?_)
                    · have hc1326 : ¬ (v1222.toInt = 0) := fun h9 => c9 ((fi_eq rfl (show (0 : Int32).toInt = 0 by decide)).mpr h9)
                      obtain ⟨v1327, h_v1327, e_v1327⟩ := tk_inc v1222 (-1) (by decide) (by omega) (by omega)
                      refine lv_iinc (v := v1327) (lv' := [(2, .int v1327), (3, .int v1221), (1, .int v177), (0, .ref am)]) hx hb dX13_drawVerse_80 hl (k := 1) rfl e_v1327 (by decide) rfl (fun ls hl => ?_)
                      obtain ⟨v1328, h_v1328, e_v1328⟩ := tk_inc v1221 1 (by decide) (by omega) (by omega)
                      refine lv_iinc (v := v1328) (lv' := [(3, .int v1328), (2, .int v1327), (1, .int v177), (0, .ref am)]) hx hb dX13_drawVerse_83 hl (k := 1) rfl e_v1328 (by decide) rfl (fun ls hl => ?_)
                      refine lv_goto (tgt := 52) hx hb dX13_drawVerse_86 (by decide) ?_
                      exact ih_l1315 v1328 v1327 _ _ _ _ _ _ (by omega) (by omega) (by omega) (by omega) hM hS hIF hIG hIR hFF hGG hRR hf1194 (by omega) _ (lv_sub hl [0, 1, 2, 3] rfl)
                    · have hc1326 : v1222.toInt = 0 := (fi_eq rfl (show (0 : Int32).toInt = 0 by decide)).mp c9
                      refine lv_iload_n hx hb dX13_drawVerse_78 rfl (lv_at hl 0 rfl) ?_
                      exact mz_iret (v := v1221) hx hb hr rfl hlocks ⟨hIF, hIG, hIR, hFF, hRR, hGG, (by omega), (by omega)⟩ hM hS dX13_drawVerse_79
          have hk_0 : (0 : Int32).toInt = 0 := by decide
          exact hl1315 11 0 v1218 _ _ _ _ _ _ (by omega) (by omega) (by omega) (by omega) hM hS hIF hIG hIR hFF hGG hRR hf1194 (by omega) _ (lv_sub hl [0, 1, 2, 3] rfl)
        refine lv_if_ne (tgt := 44) hx hb dX13_drawVerse_37 (by decide) (fun c9 => ?_) (fun c9 => ?_)
        · have hc1209 : ¬ (v177.toInt = 0) := fun h9 => c9 ((fi_eq rfl (show (0 : Int32).toInt = 0 by decide)).mpr h9)
          refine lv_aload_n hx hb dX13_drawVerse_44 rfl (lv_at hl 2 rfl) ?_
          refine lv_iload_n hx hb dX13_drawVerse_45 rfl (lv_at hl 1 rfl) ?_
          refine mz_Vi (As := [.int v177]) (rest := []) ⟨hx, hb, hml, hown, hts⟩ hK hM hS (k_X13_draw l D cy ld ad am hD _ _ _ _ v177 hIF hIG hIR (by omega) (by omega)) ⟨callB_of 1 hts (wl_in mw_1385) rfl rfl rfl (htl _ mw_5) (htl _ mw_1382) hd_yX13_draw ⟨(Nat.le_of_ble_eq_true rfl), (Nat.le_of_ble_eq_true rfl)⟩, htl _ mw_1383, htl _ mw_1384⟩ rfl hl.1 rfl (Nat.le_of_ble_eq_true rfl) dX13_drawVerse_46 ⟨(Nat.le_of_ble_eq_true rfl), (Nat.le_of_ble_eq_true rfl)⟩ (fun v1329 H locs F G R S hpo hM hS => ?_)
          obtain ⟨hIF, hIG, hIR, hfr9, hrr9, hgr9, hpo1330, hpo1331, hpo1332, hpo1333⟩ := hpo
          have hq_v1329 := tk_rng v1329
          have hFF := mz_fr (K := [34, 38]) (Fa := Fa) hfr9 hFF (by decide)
          have hRR := mz_fr (K := []) (Fa := Ra) hrr9 hRR (by decide)
          have hGG := mz_fr (K := [39, 40, 47]) (Fa := Ga) hgr9 hGG (by decide)
          have hf1194 : R 3 1 = _ := (congrFun (hrr9 3 (by decide)) 1).trans hf1194
          exact hj1220 v1329 _ _ _ _ _ _ (by omega) (by omega) (by omega) hM hS hIF hIG hIR hFF hGG hRR hf1194 _ (lv_sub hl [1, 2] rfl)
        · have hc1209 : v177.toInt = 0 := (fi_eq rfl (show (0 : Int32).toInt = 0 by decide)).mp c9
          refine lv_iconst (v := 0) hx hb dX13_drawVerse_40 (by decide) ?_
          refine lv_goto (tgt := 49) hx hb dX13_drawVerse_41 (by decide) ?_
          have hk_0 : (0 : Int32).toInt = 0 := by decide
          exact hj1220 0 _ _ _ _ _ _ (by omega) (by omega) (by omega) hM hS hIF hIG hIR hFF hGG hRR hf1194 _ (lv_sub hl [1, 2] rfl)
      · have hc1196 : ¬ (v1195.toInt ≤ v176.toInt) := fun h9 => c9 ((fi_le rfl rfl).mpr h9)
        refine lv_iload_n hx hb dX13_drawVerse_14 rfl (lv_at hl 1 rfl) ?_
        refine lv_aload_n hx hb dX13_drawVerse_15 rfl (lv_at hl 2 rfl) ?_
        refine lv_iload_n hx hb dX13_drawVerse_16 rfl (lv_at hl 0 rfl) ?_
        refine mz_Vi (As := [.int v176]) (rest := [.int v177]) ⟨hx, hb, hml, hown, hts⟩ hK hM hS (k_X13_canSing l D cy ld ad am hD _ _ _ _ v176 hIF hIG hIR (by omega) (by omega)) ⟨callB_of 1 hts (wl_in mw_1326) rfl rfl rfl (htl _ mw_5) (htl _ mw_1323) hd_yX13_canSing ⟨(Nat.le_of_ble_eq_true rfl), (Nat.le_of_ble_eq_true rfl)⟩, htl _ mw_1324, htl _ mw_1325⟩ rfl hl.1 rfl (Nat.le_of_ble_eq_true rfl) dX13_drawVerse_17 ⟨(Nat.le_of_ble_eq_true rfl), (Nat.le_of_ble_eq_true rfl)⟩ (fun v1335 H locs F G R S hpo hM hS => ?_)
        obtain ⟨hIF, hIG, hIR, hfr9, hrr9, hgr9, hpo1336, hpo1337, hpo1338, hpo1339⟩ := hpo
        have hq_v1335 := tk_rng v1335
        have hFF := mz_fr (K := [34, 38]) (Fa := Fa) hfr9 hFF (by decide)
        have hRR := mz_fr (K := []) (Fa := Ra) hrr9 hRR (by decide)
        have hGG := mz_fr (K := [39, 40, 47]) (Fa := Ga) hgr9 hGG (by decide)
        have hf1194 : R 3 1 = _ := (congrFun (hrr9 3 (by decide)) 1).trans hf1194
        have hj1344 : ∀ (v1343 : Int32), (0 ≤ v1343.toInt) → (v1343.toInt ≤ 1) → ∀ ls : Array Slot, lv_has ls 4 [(2, .int v176), (0, .ref am)] → W p l e ({ frames := 10, cells := 0, slots := 0, locals := 630 }) s m args below meth c H locs 0 0 (MQ below (mz_i D cy ad am (fun r F G R S => mz_IF true F ∧ mz_IG G ∧ mz_IR [] true R ∧ (∀ k : Nat, k ∉ ([34, 38] : List Nat) → F k = Fa k) ∧ (∀ k : Nat, k ∉ ([] : List Nat) → R k = Ra k) ∧ (∀ k : Nat, k ∉ ([39, 40, 47] : List Nat) → G k = Ga k) ∧ (-1) ≤ r.toInt ∧ r.toInt ≤ 9)) args s 0 0 (mz_W ad am)) (F0 m 28 ls [.int v1343, .int v177]) := by
          intro v1343 hq0_j1344 hq1_j1344 ls hl
          refine lv_iadd hx hb dX13_drawVerse_28 ?_
          refine tk_add rfl rfl (by omega) (by omega) (fun v1345 h_v1345 => ?_)
          refine lv_istore_n (lv' := [(1, .int v1345), (2, .int v176), (0, .ref am)]) hx hb dX13_drawVerse_29 rfl hl (by decide) rfl (fun ls hl => ?_)
          obtain ⟨v1346, h_v1346, e_v1346⟩ := tk_inc v176 1 (by decide) (by omega) (by omega)
          refine lv_iinc (v := v1346) (lv' := [(2, .int v1346), (1, .int v1345), (0, .ref am)]) hx hb dX13_drawVerse_30 hl (k := 1) rfl e_v1346 (by decide) rfl (fun ls hl => ?_)
          refine lv_goto (tgt := 4) hx hb dX13_drawVerse_33 (by decide) ?_
          exact ih_l1193 v1346 v1345 _ _ _ _ _ _ (by omega) (by omega) (by omega) hM hS hIF hIG hIR hFF hGG hRR (by omega) _ (lv_sub hl [0, 1, 2] rfl)
        refine lv_if_eq (tgt := 27) hx hb dX13_drawVerse_20 (by decide) (fun c9 => ?_) (fun c9 => ?_)
        · have hc1341 : v1335.toInt = 0 := (fi_eq rfl (show (0 : Int32).toInt = 0 by decide)).mp c9
          refine lv_iconst (v := 0) hx hb dX13_drawVerse_27 (by decide) ?_
          have hk_0 : (0 : Int32).toInt = 0 := by decide
          exact hj1344 0 (by omega) (by omega) _ (lv_sub hl [0, 2] rfl)
        · have hc1341 : ¬ (v1335.toInt = 0) := fun h9 => c9 ((fi_eq rfl (show (0 : Int32).toInt = 0 by decide)).mpr h9)
          refine lv_iconst (v := 1) hx hb dX13_drawVerse_23 (by decide) ?_
          refine lv_goto (tgt := 28) hx hb dX13_drawVerse_24 (by decide) ?_
          have hk_1 : (1 : Int32).toInt = 1 := by decide
          exact hj1344 1 (by omega) (by omega) _ (lv_sub hl [0, 2] rfl)
  have hk_0 : (0 : Int32).toInt = 0 := by decide
  have hk_0 : (0 : Int32).toInt = 0 := by decide
  exact hl1193 11 0 0 _ _ _ _ _ _ (by omega) (by omega) (by omega) hM hS hIF hIG hIR (fun _ _ => rfl) (fun _ _ => rfl) (fun _ _ => rfl) (by omega) _ (lv_sub hl [0, 1, 2] rfl)
end
