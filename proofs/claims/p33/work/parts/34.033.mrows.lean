theorem hd_yX13_four : yX13_four.cls ≠ "java/lang/invoke/MethodHandle" ∧ yX13_four.cls ≠ "java/lang/invoke/VarHandle" ∧ (parseMethodDescriptor yX13_four.desc).map (fun d => d.parameters.length) = some 1 := by decide +kernel
theorem dX13_feed_0 : decode cX13_feed 0 = .ok (.aload_n 0, 1) := by decide +kernel
theorem dX13_feed_1 : decode cX13_feed 1 = .ok (.iconst 0, 1) := by decide +kernel
theorem dX13_feed_2 : decode cX13_feed 2 = .ok (.putfield 170, 3) := by decide +kernel
theorem dX13_feed_5 : decode cX13_feed 5 = .ok (.aload_n 0, 1) := by decide +kernel
theorem dX13_feed_6 : decode cX13_feed 6 = .ok (.getfield 224, 3) := by decide +kernel
theorem dX13_feed_9 : decode cX13_feed 9 = .ok (.bipush 20, 2) := by decide +kernel
theorem dX13_feed_11 : decode cX13_feed 11 = .ok (.iadd, 1) := by decide +kernel
theorem dX13_feed_12 : decode cX13_feed 12 = .ok (.sipush 400, 3) := by decide +kernel
theorem dX13_feed_15 : decode cX13_feed 15 = .ok (.if_icmp .le 5, 3) := by decide +kernel
theorem dX13_feed_20 : decode cX13_feed 20 = .ok (.aload_n 0, 1) := by decide +kernel
theorem dX13_feed_21 : decode cX13_feed 21 = .ok (.iload_n 1, 1) := by decide +kernel
theorem dX13_feed_22 : decode cX13_feed 22 = .ok (.invokevirtual 230, 3) := by decide +kernel
theorem dX13_feed_25 : decode cX13_feed 25 = .ok (.aload_n 0, 1) := by decide +kernel
theorem dX13_feed_26 : decode cX13_feed 26 = .ok (.iload_n 2, 1) := by decide +kernel
theorem dX13_feed_27 : decode cX13_feed 27 = .ok (.invokevirtual 230, 3) := by decide +kernel
theorem dX13_feed_30 : decode cX13_feed 30 = .ok (.aload_n 0, 1) := by decide +kernel
theorem dX13_feed_31 : decode cX13_feed 31 = .ok (.iload_n 3, 1) := by decide +kernel
theorem dX13_feed_32 : decode cX13_feed 32 = .ok (.invokevirtual 230, 3) := by decide +kernel
theorem dX13_feed_35 : decode cX13_feed 35 = .ok (.aload_n 0, 1) := by decide +kernel
theorem dX13_feed_36 : decode cX13_feed 36 = .ok (.iload 4, 2) := by decide +kernel
theorem dX13_feed_38 : decode cX13_feed 38 = .ok (.invokevirtual 230, 3) := by decide +kernel
theorem dX13_feed_41 : decode cX13_feed 41 = .ok (.aload_n 0, 1) := by decide +kernel
theorem dX13_feed_42 : decode cX13_feed 42 = .ok (.iload 5, 2) := by decide +kernel
theorem dX13_feed_44 : decode cX13_feed 44 = .ok (.invokevirtual 230, 3) := by decide +kernel
theorem dX13_feed_47 : decode cX13_feed 47 = .ok (.aload_n 0, 1) := by decide +kernel
theorem dX13_feed_48 : decode cX13_feed 48 = .ok (.getfield 224, 3) := by decide +kernel
theorem dX13_feed_51 : decode cX13_feed 51 = .ok (.ireturn, 1) := by decide +kernel
theorem dX13_feed_18 : decode cX13_feed 18 = .ok (.iconst (-1), 1) := by decide +kernel
theorem dX13_feed_19 : decode cX13_feed 19 = .ok (.ireturn, 1) := by decide +kernel
set_option maxHeartbeats 4000000 in
set_option maxRecDepth 100000 in
theorem k_X13_feed (l : Launch) (D : va_G) (cy : Nat → ClassId) (ld ad : Nat → Nat) (am : Nat) (hD : mz_D ad am) (Fa : Nat → Int32) (Ga : Nat → Int64) (Ra : Nat → Nat → Int32) (Sa : Nat → Nat → Int64) (p1 : Int32) (p2 : Int32) (p3 : Int32) (p4 : Int32) (p5 : Int32) (hIF : mz_IF true Fa) (hIG : mz_IG Ga) (hIR : mz_IR [] true Ra) : Met l yX13_feed (wl yX13_feed cX13_feed 6 (some .int)) ({ frames := 4, cells := 0, slots := 0, locals := 210 }) (mz_p D cy ld ad am Fa Ga Ra Sa [.ref am, .int p1, .int p2, .int p3, .int p4, .int p5]) (mz_i D cy ad am (fun r F G R S => mz_IF true F ∧ mz_IG G ∧ mz_IR [] true R ∧ (∀ k : Nat, k ∉ ([0, 13] : List Nat) → F k = Fa k) ∧ (∀ k : Nat, k ∉ ([12] : List Nat) → R k = Ra k) ∧ (∀ k : Nat, k ∉ ([] : List Nat) → G k = Ga k) ∧ (-1) ≤ r.toInt ∧ r.toInt ≤ 400)) 0 0 (mz_W ad am) := by
  refine mz_met (y := yX13_feed) (cc := cX13_feed) (maxL := 6) (ret := (some .int)) (av := [.ref am, .int p1, .int p2, .int p3, .int p4, .int p5]) _ (by decide) (Nat.le_of_ble_eq_true rfl) ?_
  intro p e s m args below meth c hx hb hr hml hts htl hown hlocks hK H locs hM hS ls hl
  have hown : s.vm.findClass RX13 = some m.cls := hown
  have hl : lv_has ls 6 [(0, .ref am), (1, .int p1), (2, .int p2), (3, .int p3), (4, .int p4), (5, .int p5)] := hl
  have hr_p1 := tk_rng p1
  have hr_p2 := tk_rng p2
  have hr_p3 := tk_rng p3
  have hr_p4 := tk_rng p4
  have hr_p5 := tk_rng p5
  refine lv_aload_n hx hb dX13_feed_0 rfl (lv_at hl 0 rfl) ?_
  refine lv_iconst (v := 0) hx hb dX13_feed_1 (by decide) ?_
  have hk_0 : (0 : Int32).toInt = 0 := by decide
  refine mz_putI (ty := .int) (x := 0) hx hb htl hown hK hD hM hS 0 (Nat.le_of_ble_eq_true rfl) rfl (htl _ mw_286) (fun _ h9 => h9) rfl (tyX13_ok 0 (by decide)) rfl rfl dX13_feed_2 (fun H locs F hM hS hf9 hj9 => ?_)
  have hIF := hIF.put hf9 hj9 (tk_rng _).1 (tk_rng _).2 (by decide)
  have hFF := mz_frp (K := [0, 13]) (Fa := Fa) hj9 (fun _ _ => rfl) (by decide)
  have hf2 := hf9
  refine lv_aload_n hx hb dX13_feed_5 rfl (lv_at hl 0 rfl) ?_
  refine mz_getI hx hb htl hown hK hM 13 (Nat.le_of_ble_eq_true rfl) rfl (htl _ mw_431) (fun _ h9 => h9) dX13_feed_6 (fun v4 hf3 => ?_)
  have hq_v4 := tk_rng v4
  have hr_v4 : 0 ≤ v4.toInt ∧ v4.toInt ≤ 400 := hIF.at hf3
  refine lv_bipush (v := 20) hx hb dX13_feed_9 (by decide) ?_
  refine lv_iadd hx hb dX13_feed_11 ?_
  refine tk_add rfl (show (20 : Int32).toInt = 20 by decide) (by omega) (by omega) (fun v5 h_v5 => ?_)
  refine lv_sipush (v := 400) hx hb dX13_feed_12 (by decide) ?_
  refine lv_icmp_le (tgt := 20) hx hb dX13_feed_15 (by decide) (fun c9 => ?_) (fun c9 => ?_)
  · have hc6 : v5.toInt ≤ 400 := (fi_le rfl (show (400 : Int32).toInt = 400 by decide)).mp c9
    refine lv_aload_n hx hb dX13_feed_20 rfl (lv_at hl 0 rfl) ?_
    refine lv_iload_n hx hb dX13_feed_21 rfl (lv_at hl 1 rfl) ?_
    refine mz_Vv (As := [.int p1]) (rest := []) ⟨hx, hb, hml, hown, hts⟩ hK hM hS (k_X13_four l D cy ld ad am hD _ _ _ _ p1 v4 hIF hIG hIR hf3 (by omega) (by omega)) ⟨callB_of 1 hts (wl_in mw_435) rfl rfl rfl (htl _ mw_5) (htl _ mw_432) hd_yX13_four ⟨(Nat.le_of_ble_eq_true rfl), (Nat.le_of_ble_eq_true rfl)⟩, htl _ mw_433, htl _ mw_434⟩ rfl hl.1 rfl (Nat.le_of_ble_eq_true rfl) dX13_feed_22 ⟨(Nat.le_of_ble_eq_true rfl), (Nat.le_of_ble_eq_true rfl)⟩ (fun H locs F G R S hpo hM hS => ?_)
    obtain ⟨hIF, hIG, hIR, hfr9, hrr9, hgr9, hpo10⟩ := hpo
    have hFF := mz_fr (K := [0, 13]) (Fa := Fa) hfr9 hFF (by decide)
    have hRR := mz_fr (K := [12]) (Fa := Ra) hrr9 (fun _ _ => rfl) (by decide)
    have hGG := mz_fr (K := []) (Fa := Ga) hgr9 (fun _ _ => rfl) (by decide)
    have hf2 := (hfr9 0 (by decide)).trans hf2
    obtain ⟨v13, hf12⟩ : ∃ z : Int32, F 13 = z := ⟨_, rfl⟩
    have hq_v13 := tk_rng v13
    rw [hf12] at hpo10
    have hr_v13 : 0 ≤ v13.toInt ∧ v13.toInt ≤ 400 := hIF.at hf12
    refine lv_aload_n hx hb dX13_feed_25 rfl (lv_at hl 0 rfl) ?_
    refine lv_iload_n hx hb dX13_feed_26 rfl (lv_at hl 2 rfl) ?_
    refine mz_Vv (As := [.int p2]) (rest := []) ⟨hx, hb, hml, hown, hts⟩ hK hM hS (k_X13_four l D cy ld ad am hD _ _ _ _ p2 v13 hIF hIG hIR hf12 (by omega) (by omega)) ⟨callB_of 1 hts (wl_in mw_435) rfl rfl rfl (htl _ mw_5) (htl _ mw_432) hd_yX13_four ⟨(Nat.le_of_ble_eq_true rfl), (Nat.le_of_ble_eq_true rfl)⟩, htl _ mw_433, htl _ mw_434⟩ rfl hl.1 rfl (Nat.le_of_ble_eq_true rfl) dX13_feed_27 ⟨(Nat.le_of_ble_eq_true rfl), (Nat.le_of_ble_eq_true rfl)⟩ (fun H locs F G R S hpo hM hS => ?_)
    obtain ⟨hIF, hIG, hIR, hfr9, hrr9, hgr9, hpo14⟩ := hpo
    have hFF := mz_fr (K := [0, 13]) (Fa := Fa) hfr9 hFF (by decide)
    have hRR := mz_fr (K := [12]) (Fa := Ra) hrr9 hRR (by decide)
    have hGG := mz_fr (K := []) (Fa := Ga) hgr9 hGG (by decide)
    have hf2 := (hfr9 0 (by decide)).trans hf2
    obtain ⟨v17, hf16⟩ : ∃ z : Int32, F 13 = z := ⟨_, rfl⟩
    have hq_v17 := tk_rng v17
    rw [hf16] at hpo14
    have hr_v17 : 0 ≤ v17.toInt ∧ v17.toInt ≤ 400 := hIF.at hf16
    refine lv_aload_n hx hb dX13_feed_30 rfl (lv_at hl 0 rfl) ?_
    refine lv_iload_n hx hb dX13_feed_31 rfl (lv_at hl 3 rfl) ?_
    refine mz_Vv (As := [.int p3]) (rest := []) ⟨hx, hb, hml, hown, hts⟩ hK hM hS (k_X13_four l D cy ld ad am hD _ _ _ _ p3 v17 hIF hIG hIR hf16 (by omega) (by omega)) ⟨callB_of 1 hts (wl_in mw_435) rfl rfl rfl (htl _ mw_5) (htl _ mw_432) hd_yX13_four ⟨(Nat.le_of_ble_eq_true rfl), (Nat.le_of_ble_eq_true rfl)⟩, htl _ mw_433, htl _ mw_434⟩ rfl hl.1 rfl (Nat.le_of_ble_eq_true rfl) dX13_feed_32 ⟨(Nat.le_of_ble_eq_true rfl), (Nat.le_of_ble_eq_true rfl)⟩ (fun H locs F G R S hpo hM hS => ?_)
    obtain ⟨hIF, hIG, hIR, hfr9, hrr9, hgr9, hpo18⟩ := hpo
    have hFF := mz_fr (K := [0, 13]) (Fa := Fa) hfr9 hFF (by decide)
    have hRR := mz_fr (K := [12]) (Fa := Ra) hrr9 hRR (by decide)
    have hGG := mz_fr (K := []) (Fa := Ga) hgr9 hGG (by decide)
    have hf2 := (hfr9 0 (by decide)).trans hf2
    obtain ⟨v21, hf20⟩ : ∃ z : Int32, F 13 = z := ⟨_, rfl⟩
    have hq_v21 := tk_rng v21
    rw [hf20] at hpo18
    have hr_v21 : 0 ≤ v21.toInt ∧ v21.toInt ≤ 400 := hIF.at hf20
    refine lv_aload_n hx hb dX13_feed_35 rfl (lv_at hl 0 rfl) ?_
    refine lv_iload hx hb dX13_feed_36 (lv_at hl 4 rfl) ?_
    refine mz_Vv (As := [.int p4]) (rest := []) ⟨hx, hb, hml, hown, hts⟩ hK hM hS (k_X13_four l D cy ld ad am hD _ _ _ _ p4 v21 hIF hIG hIR hf20 (by omega) (by omega)) ⟨callB_of 1 hts (wl_in mw_435) rfl rfl rfl (htl _ mw_5) (htl _ mw_432) hd_yX13_four ⟨(Nat.le_of_ble_eq_true rfl), (Nat.le_of_ble_eq_true rfl)⟩, htl _ mw_433, htl _ mw_434⟩ rfl hl.1 rfl (Nat.le_of_ble_eq_true rfl) dX13_feed_38 ⟨(Nat.le_of_ble_eq_true rfl), (Nat.le_of_ble_eq_true rfl)⟩ (fun H locs F G R S hpo hM hS => ?_)
    obtain ⟨hIF, hIG, hIR, hfr9, hrr9, hgr9, hpo22⟩ := hpo
    have hFF := mz_fr (K := [0, 13]) (Fa := Fa) hfr9 hFF (by decide)
    have hRR := mz_fr (K := [12]) (Fa := Ra) hrr9 hRR (by decide)
    have hGG := mz_fr (K := []) (Fa := Ga) hgr9 hGG (by decide)
    have hf2 := (hfr9 0 (by decide)).trans hf2
    obtain ⟨v25, hf24⟩ : ∃ z : Int32, F 13 = z := ⟨_, rfl⟩
    have hq_v25 := tk_rng v25
    rw [hf24] at hpo22
    have hr_v25 : 0 ≤ v25.toInt ∧ v25.toInt ≤ 400 := hIF.at hf24
    refine lv_aload_n hx hb dX13_feed_41 rfl (lv_at hl 0 rfl) ?_
    refine lv_iload hx hb dX13_feed_42 (lv_at hl 5 rfl) ?_
    refine mz_Vv (As := [.int p5]) (rest := []) ⟨hx, hb, hml, hown, hts⟩ hK hM hS (k_X13_four l D cy ld ad am hD _ _ _ _ p5 v25 hIF hIG hIR hf24 (by omega) (by omega)) ⟨callB_of 1 hts (wl_in mw_435) rfl rfl rfl (htl _ mw_5) (htl _ mw_432) hd_yX13_four ⟨(Nat.le_of_ble_eq_true rfl), (Nat.le_of_ble_eq_true rfl)⟩, htl _ mw_433, htl _ mw_434⟩ rfl hl.1 rfl (Nat.le_of_ble_eq_true rfl) dX13_feed_44 ⟨(Nat.le_of_ble_eq_true rfl), (Nat.le_of_ble_eq_true rfl)⟩ (fun H locs F G R S hpo hM hS => ?_)
    obtain ⟨hIF, hIG, hIR, hfr9, hrr9, hgr9, hpo26⟩ := hpo
    have hFF := mz_fr (K := [0, 13]) (Fa := Fa) hfr9 hFF (by decide)
    have hRR := mz_fr (K := [12]) (Fa := Ra) hrr9 hRR (by decide)
    have hGG := mz_fr (K := []) (Fa := Ga) hgr9 hGG (by decide)
    have hf2 := (hfr9 0 (by decide)).trans hf2
    obtain ⟨v29, hf28⟩ : ∃ z : Int32, F 13 = z := ⟨_, rfl⟩
    have hq_v29 := tk_rng v29
    rw [hf28] at hpo26
    have hr_v29 : 0 ≤ v29.toInt ∧ v29.toInt ≤ 400 := hIF.at hf28
    refine lv_aload_n hx hb dX13_feed_47 rfl (lv_at hl 0 rfl) ?_
    refine mz_getI hx hb htl hown hK hM 13 (Nat.le_of_ble_eq_true rfl) rfl (htl _ mw_431) (fun _ h9 => h9) dX13_feed_48 (fun v9 e9 => ?_)
    refine fx_ti (v := v29) (e9.symm.trans hf28) ?_
    exact mz_iret (v := v29) hx hb hr rfl hlocks ⟨hIF, hIG, hIR, hFF, hRR, hGG, (by omega), (by omega)⟩ hM hS dX13_feed_51
  · have hc6 : ¬ (v5.toInt ≤ 400) := fun h9 => c9 ((fi_le rfl (show (400 : Int32).toInt = 400 by decide)).mpr h9)
    refine lv_iconst (v := (-1)) hx hb dX13_feed_18 (by decide) ?_
    have hk_m1 : ((-1) : Int32).toInt = (-1) := by decide
    exact mz_iret (v := (-1)) hx hb hr rfl hlocks ⟨hIF, hIG, hIR, hFF, (fun _ _ => rfl), (fun _ _ => rfl), (by omega), (by omega)⟩ hM hS dX13_feed_19
