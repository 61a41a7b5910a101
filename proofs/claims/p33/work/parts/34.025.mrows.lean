theorem hd_yX13_isVerse : yX13_isVerse.cls ≠ "java/lang/invoke/MethodHandle" ∧ yX13_isVerse.cls ≠ "java/lang/invoke/VarHandle" ∧ (parseMethodDescriptor yX13_isVerse.desc).map (fun d => d.parameters.length) = some 1 := by decide +kernel
theorem dX13_at_0 : decode cX13_at 0 = .ok (.aload_n 0, 1) := by decide +kernel
theorem dX13_at_1 : decode cX13_at 1 = .ok (.iconst 0, 1) := by decide +kernel
theorem dX13_at_2 : decode cX13_at 2 = .ok (.putfield 170, 3) := by decide +kernel
theorem dX13_at_5 : decode cX13_at 5 = .ok (.aload_n 0, 1) := by decide +kernel
theorem dX13_at_6 : decode cX13_at 6 = .ok (.iload_n 1, 1) := by decide +kernel
theorem dX13_at_7 : decode cX13_at 7 = .ok (.invokevirtual 216, 3) := by decide +kernel
theorem dX13_at_10 : decode cX13_at 10 = .ok (.ifCond .eq 29, 3) := by decide +kernel
theorem dX13_at_39 : decode cX13_at 39 = .ok (.iconst (-1), 1) := by decide +kernel
theorem dX13_at_40 : decode cX13_at 40 = .ok (.ireturn, 1) := by decide +kernel
theorem dX13_at_13 : decode cX13_at 13 = .ok (.iload_n 2, 1) := by decide +kernel
theorem dX13_at_14 : decode cX13_at 14 = .ok (.i2l, 1) := by decide +kernel
theorem dX13_at_15 : decode cX13_at 15 = .ok (.lconst 0, 1) := by decide +kernel
theorem dX13_at_16 : decode cX13_at 16 = .ok (.lconst 1, 1) := by decide +kernel
theorem dX13_at_17 : decode cX13_at 17 = .ok (.invokestatic 190, 3) := by decide +kernel
theorem dX13_at_20 : decode cX13_at 20 = .ok (.ifCond .eq 19, 3) := by decide +kernel
theorem dX13_at_23 : decode cX13_at 23 = .ok (.aload_n 0, 1) := by decide +kernel
theorem dX13_at_24 : decode cX13_at 24 = .ok (.getfield 13, 3) := by decide +kernel
theorem dX13_at_27 : decode cX13_at 27 = .ok (.bipush 58, 2) := by decide +kernel
theorem dX13_at_29 : decode cX13_at 29 = .ok (.iconst 2, 1) := by decide +kernel
theorem dX13_at_30 : decode cX13_at 30 = .ok (.iload_n 1, 1) := by decide +kernel
theorem dX13_at_31 : decode cX13_at 31 = .ok (.imul, 1) := by decide +kernel
theorem dX13_at_32 : decode cX13_at 32 = .ok (.iadd, 1) := by decide +kernel
theorem dX13_at_33 : decode cX13_at 33 = .ok (.iload_n 2, 1) := by decide +kernel
theorem dX13_at_34 : decode cX13_at 34 = .ok (.iadd, 1) := by decide +kernel
theorem dX13_at_35 : decode cX13_at 35 = .ok (.iaload, 1) := by decide +kernel
theorem dX13_at_36 : decode cX13_at 36 = .ok (.goto 4, 3) := by decide +kernel
set_option maxHeartbeats 4000000 in
set_option maxRecDepth 100000 in
theorem k_X13_at (l : Launch) (D : va_G) (cy : Nat → ClassId) (ld ad : Nat → Nat) (am : Nat) (hD : mz_D ad am) (Fa : Nat → Int32) (Ga : Nat → Int64) (Ra : Nat → Nat → Int32) (Sa : Nat → Nat → Int64) (p1 : Int32) (p2 : Int32) (hIF : mz_IF true Fa) (hIG : mz_IG Ga) (hIR : mz_IR [] true Ra) : Met l yX13_at (wl yX13_at cX13_at 3 (some .int)) ({ frames := 5, cells := 0, slots := 0, locals := 280 }) (mz_p D cy ld ad am Fa Ga Ra Sa [.ref am, .int p1, .int p2]) (mz_i D cy ad am (fun r F G R S => mz_IF true F ∧ mz_IG G ∧ mz_IR [] true R ∧ (∀ k : Nat, k ∉ ([0] : List Nat) → F k = Fa k) ∧ (∀ k : Nat, k ∉ ([] : List Nat) → R k = Ra k) ∧ (∀ k : Nat, k ∉ ([] : List Nat) → G k = Ga k))) 0 0 (mz_W ad am) := by
  refine mz_met (y := yX13_at) (cc := cX13_at) (maxL := 3) (ret := (some .int)) (av := [.ref am, .int p1, .int p2]) _ (by decide) (Nat.le_of_ble_eq_true rfl) ?_
  intro p e s m args below meth c hx hb hr hml hts htl hown hlocks hK H locs hM hS ls hl
  have hown : s.vm.findClass RX13 = some m.cls := hown
  have hl : lv_has ls 3 [(0, .ref am), (1, .int p1), (2, .int p2)] := hl
  have hr_p1 := tk_rng p1
  have hr_p2 := tk_rng p2
  refine lv_aload_n hx hb dX13_at_0 rfl (lv_at hl 0 rfl) ?_
  refine lv_iconst (v := 0) hx hb dX13_at_1 (by decide) ?_
  have hk_0 : (0 : Int32).toInt = 0 := by decide
  refine mz_putI (ty := .int) (x := 0) hx hb htl hown hK hD hM hS 0 (Nat.le_of_ble_eq_true rfl) rfl (htl _ mw_286) (fun _ h9 => h9) rfl (tyX13_ok 0 (by decide)) rfl rfl dX13_at_2 (fun H locs F hM hS hf9 hj9 => ?_)
  have hIF := hIF.put hf9 hj9 (tk_rng _).1 (tk_rng _).2 (by decide)
  have hFF := mz_frp (K := [0]) (Fa := Fa) hj9 (fun _ _ => rfl) (by decide)
  have hf2 := hf9
  refine lv_aload_n hx hb dX13_at_5 rfl (lv_at hl 0 rfl) ?_
  refine lv_iload_n hx hb dX13_at_6 rfl (lv_at hl 1 rfl) ?_
  refine mz_Vj (As := [.int p1]) (rest := []) ⟨hx, hb, hml, hown, hts⟩ hK hM hS (k_X13_isVerse l D cy ld ad am hD _ _ _ _ p1 (hIF.weak) hIG hIR) ⟨callB_of 1 hts (wl_in mw_360) rfl rfl rfl (htl _ mw_5) (htl _ mw_357) hd_yX13_isVerse ⟨(Nat.le_of_ble_eq_true rfl), (Nat.le_of_ble_eq_true rfl)⟩, htl _ mw_358, htl _ mw_359⟩ rfl hl.1 rfl (Nat.le_of_ble_eq_true rfl) dX13_at_7 ⟨(Nat.le_of_ble_eq_true rfl), (Nat.le_of_ble_eq_true rfl)⟩ (fun v3 H locs hpo hM hS => ?_)
  obtain ⟨hpo4, hpo5, hpo6, hpo10, hpo11⟩ := hpo
  have hq_v3 := tk_rng v3
  refine lv_if_eq (tgt := 39) hx hb dX13_at_10 (by decide) (fun c9 => ?_) (fun c9 => ?_)
  · have hc13 : v3.toInt = 0 := (fi_eq rfl (show (0 : Int32).toInt = 0 by decide)).mp c9
    refine lv_iconst (v := (-1)) hx hb dX13_at_39 (by decide) ?_
    have hk_m1 : ((-1) : Int32).toInt = (-1) := by decide
    exact mz_iret (v := (-1)) hx hb hr rfl hlocks ⟨hIF, hIG, hIR, hFF, (fun _ _ => rfl), (fun _ _ => rfl)⟩ hM hS dX13_at_40
  · have hc13 : ¬ (v3.toInt = 0) := fun h9 => c9 ((fi_eq rfl (show (0 : Int32).toInt = 0 by decide)).mpr h9)
    have hwk_14 : 0 ≤ p1.toInt ∧ p1.toInt ≤ 9 := by omega
    refine lv_iload_n hx hb dX13_at_13 rfl (lv_at hl 2 rfl) ?_
    obtain ⟨w15, e_w15, h_w15⟩ : ∃ z : Int64, p2.toInt64 = z ∧ z.toInt = p2.toInt := ⟨_, rfl, fl_w _⟩
    refine lv_i2l (v := w15) hx hb dX13_at_14 e_w15 ?_
    refine lv_lconst (v := 0) hx hb dX13_at_15 (by decide) ?_
    refine lv_lconst (v := 1) hx hb dX13_at_16 (by decide) ?_
    have hk_0 : (0 : Int64).toInt = 0 := by decide
    have hk_1 : (1 : Int64).toInt = 1 := by decide
    refine mz_Sj (As := [.long w15, .long 0, .long 1]) (rest := []) ⟨hx, hb, hml, hown, hts⟩ hK hM hS (k_X13_in l D cy ld ad am hD _ _ _ _ w15 0 1) ⟨callB_of 3 hts (wl_in mw_292) rfl rfl rfl (htl _ mw_5) (htl _ mw_290) hd_yX13_in ⟨(Nat.le_of_ble_eq_true rfl), (Nat.le_of_ble_eq_true rfl)⟩, htl _ mw_291⟩ rfl hl.1 rfl (Nat.le_of_ble_eq_true rfl) dX13_at_17 ⟨(Nat.le_of_ble_eq_true rfl), (Nat.le_of_ble_eq_true rfl)⟩ (fun v16 H locs hpo hM hS => ?_)
    obtain ⟨hpo17, hpo18, hpo19, hpo20, hpo21, hpo22⟩ := hpo
    have hq_v16 := tk_rng v16
    refine lv_if_eq (tgt := 39) hx hb dX13_at_20 (by decide) (fun c9 => ?_) (fun c9 => ?_)
    · have hc24 : v16.toInt = 0 := (fi_eq rfl (show (0 : Int32).toInt = 0 by decide)).mp c9
      refine lv_iconst (v := (-1)) hx hb dX13_at_39 (by decide) ?_
      have hk_m1 : ((-1) : Int32).toInt = (-1) := by decide
      exact mz_iret (v := (-1)) hx hb hr rfl hlocks ⟨hIF, hIG, hIR, hFF, (fun _ _ => rfl), (fun _ _ => rfl)⟩ hM hS dX13_at_40
    · have hc24 : ¬ (v16.toInt = 0) := fun h9 => c9 ((fi_eq rfl (show (0 : Int32).toInt = 0 by decide)).mpr h9)
      have hwk_25 : 0 ≤ w15.toInt ∧ w15.toInt ≤ 1 := by omega
      refine lv_aload_n hx hb dX13_at_23 rfl (lv_at hl 0 rfl) ?_
      refine mz_getR hx hb htl hown hK hM 3 (Nat.le_of_ble_eq_true rfl) (Nat.le_of_ble_eq_true rfl) (htl _ mw_188) (fun _ h9 => h9) dX13_at_24 ?_
      refine lv_bipush (v := 58) hx hb dX13_at_27 (by decide) ?_
      refine lv_iconst (v := 2) hx hb dX13_at_29 (by decide) ?_
      refine lv_iload_n hx hb dX13_at_30 rfl (lv_at hl 1 rfl) ?_
      refine lv_imul hx hb dX13_at_31 ?_
      refine tk_mul (show (2 : Int32).toInt = 2 by decide) rfl (by omega) (by omega) (fun v26 h_v26 => ?_)
      refine lv_iadd hx hb dX13_at_32 ?_
      refine tk_add (show (58 : Int32).toInt = 58 by decide) rfl (by omega) (by omega) (fun v27 h_v27 => ?_)
      refine lv_iload_n hx hb dX13_at_33 rfl (lv_at hl 2 rfl) ?_
      refine lv_iadd hx hb dX13_at_34 ?_
      refine tk_add rfl rfl (by omega) (by omega) (fun v28 h_v28 => ?_)
      refine mz_iald hx hb hK hM 3 (Nat.le_of_ble_eq_true rfl) rfl (nn := 5560) rfl rfl (by omega) (by omega) dX13_at_35 (fun v29 e_v29 => ?_)
      have hq_v29 := tk_rng v29
      refine lv_goto (tgt := 40) hx hb dX13_at_36 (by decide) ?_
      exact mz_iret (v := v29) hx hb hr rfl hlocks ⟨hIF, hIG, hIR, hFF, (fun _ _ => rfl), (fun _ _ => rfl)⟩ hM hS dX13_at_40
