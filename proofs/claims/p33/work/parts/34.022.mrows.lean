theorem hd_yX13_isSinger : yX13_isSinger.cls ≠ "java/lang/invoke/MethodHandle" ∧ yX13_isSinger.cls ≠ "java/lang/invoke/VarHandle" ∧ (parseMethodDescriptor yX13_isSinger.desc).map (fun d => d.parameters.length) = some 1 := by decide +kernel
theorem hd_yX13_ofSinger : yX13_ofSinger.cls ≠ "java/lang/invoke/MethodHandle" ∧ yX13_ofSinger.cls ≠ "java/lang/invoke/VarHandle" ∧ (parseMethodDescriptor yX13_ofSinger.desc).map (fun d => d.parameters.length) = some 2 := by decide +kernel
theorem dX13_of_0 : decode cX13_of 0 = .ok (.aload_n 0, 1) := by decide +kernel
theorem dX13_of_1 : decode cX13_of 1 = .ok (.iconst 0, 1) := by decide +kernel
theorem dX13_of_2 : decode cX13_of 2 = .ok (.putfield 170, 3) := by decide +kernel
theorem dX13_of_5 : decode cX13_of 5 = .ok (.aload_n 0, 1) := by decide +kernel
theorem dX13_of_6 : decode cX13_of 6 = .ok (.iload_n 1, 1) := by decide +kernel
theorem dX13_of_7 : decode cX13_of 7 = .ok (.invokevirtual 201, 3) := by decide +kernel
theorem dX13_of_10 : decode cX13_of 10 = .ok (.ifCond .eq 24, 3) := by decide +kernel
theorem dX13_of_34 : decode cX13_of 34 = .ok (.iconst (-1), 1) := by decide +kernel
theorem dX13_of_35 : decode cX13_of 35 = .ok (.ireturn, 1) := by decide +kernel
theorem dX13_of_13 : decode cX13_of 13 = .ok (.iload_n 2, 1) := by decide +kernel
theorem dX13_of_14 : decode cX13_of 14 = .ok (.i2l, 1) := by decide +kernel
theorem dX13_of_15 : decode cX13_of 15 = .ok (.lconst 0, 1) := by decide +kernel
theorem dX13_of_16 : decode cX13_of 16 = .ok (.ldc2_w 205, 3) := by decide +kernel
theorem dX13_of_19 : decode cX13_of 19 = .ok (.invokestatic 190, 3) := by decide +kernel
theorem dX13_of_22 : decode cX13_of 22 = .ok (.ifCond .eq 12, 3) := by decide +kernel
theorem dX13_of_25 : decode cX13_of 25 = .ok (.aload_n 0, 1) := by decide +kernel
theorem dX13_of_26 : decode cX13_of 26 = .ok (.iload_n 1, 1) := by decide +kernel
theorem dX13_of_27 : decode cX13_of 27 = .ok (.iload_n 2, 1) := by decide +kernel
theorem dX13_of_28 : decode cX13_of 28 = .ok (.invokevirtual 207, 3) := by decide +kernel
theorem dX13_of_31 : decode cX13_of 31 = .ok (.goto 4, 3) := by decide +kernel
set_option maxHeartbeats 4000000 in
set_option maxRecDepth 100000 in
theorem k_X13_of (l : Launch) (D : va_G) (cy : Nat → ClassId) (ld ad : Nat → Nat) (am : Nat) (hD : mz_D ad am) (Fa : Nat → Int32) (Ga : Nat → Int64) (Ra : Nat → Nat → Int32) (Sa : Nat → Nat → Int64) (p1 : Int32) (p2 : Int32) (hIF : mz_IF true Fa) (hIG : mz_IG Ga) (hIR : mz_IR [] true Ra) : Met l yX13_of (wl yX13_of cX13_of 3 (some .int)) ({ frames := 5, cells := 0, slots := 0, locals := 280 }) (mz_p D cy ld ad am Fa Ga Ra Sa [.ref am, .int p1, .int p2]) (mz_i D cy ad am (fun r F G R S => mz_IF true F ∧ mz_IG G ∧ mz_IR [] true R ∧ (∀ k : Nat, k ∉ ([0] : List Nat) → F k = Fa k) ∧ (∀ k : Nat, k ∉ ([] : List Nat) → R k = Ra k) ∧ (∀ k : Nat, k ∉ ([] : List Nat) → G k = Ga k))) 0 0 (mz_W ad am) := by
  refine mz_met (y := yX13_of) (cc := cX13_of) (maxL := 3) (ret := (some .int)) (av := [.ref am, .int p1, .int p2]) _ (by decide) (Nat.le_of_ble_eq_true rfl) ?_
  intro p e s m args below meth c hx hb hr hml hts htl hown hlocks hK H locs hM hS ls hl
  have hown : s.vm.findClass RX13 = some m.cls := hown
  have hl : lv_has ls 3 [(0, .ref am), (1, .int p1), (2, .int p2)] := hl
  have hr_p1 := tk_rng p1
  have hr_p2 := tk_rng p2
  refine lv_aload_n hx hb dX13_of_0 rfl (lv_at hl 0 rfl) ?_
  refine lv_iconst (v := 0) hx hb dX13_of_1 (by decide) ?_
  have hk_0 : (0 : Int32).toInt = 0 := by decide
  refine mz_putI (ty := .int) (x := 0) hx hb htl hown hK hD hM hS 0 (Nat.le_of_ble_eq_true rfl) rfl (htl _ mw_286) (fun _ h9 => h9) rfl (tyX13_ok 0 (by decide)) rfl rfl dX13_of_2 (fun H locs F hM hS hf9 hj9 => ?_)
  have hIF := hIF.put hf9 hj9 (tk_rng _).1 (tk_rng _).2 (by decide)
  have hFF := mz_frp (K := [0]) (Fa := Fa) hj9 (fun _ _ => rfl) (by decide)
  have hf2 := hf9
  refine lv_aload_n hx hb dX13_of_5 rfl (lv_at hl 0 rfl) ?_
  refine lv_iload_n hx hb dX13_of_6 rfl (lv_at hl 1 rfl) ?_
  refine mz_Vj (As := [.int p1]) (rest := []) ⟨hx, hb, hml, hown, hts⟩ hK hM hS (k_X13_isSinger l D cy ld ad am hD _ _ _ _ p1 (hIF.weak) hIG hIR) ⟨callB_of 1 hts (wl_in mw_320) rfl rfl rfl (htl _ mw_5) (htl _ mw_317) hd_yX13_isSinger ⟨(Nat.le_of_ble_eq_true rfl), (Nat.le_of_ble_eq_true rfl)⟩, htl _ mw_318, htl _ mw_319⟩ rfl hl.1 rfl (Nat.le_of_ble_eq_true rfl) dX13_of_7 ⟨(Nat.le_of_ble_eq_true rfl), (Nat.le_of_ble_eq_true rfl)⟩ (fun v3 H locs hpo hM hS => ?_)
  obtain ⟨hpo4, hpo5, hpo6, hpo10, hpo11⟩ := hpo
  have hq_v3 := tk_rng v3
  refine lv_if_eq (tgt := 34) hx hb dX13_of_10 (by decide) (fun c9 => ?_) (fun c9 => ?_)
  · have hc13 : v3.toInt = 0 := (fi_eq rfl (show (0 : Int32).toInt = 0 by decide)).mp c9
    refine lv_iconst (v := (-1)) hx hb dX13_of_34 (by decide) ?_
    have hk_m1 : ((-1) : Int32).toInt = (-1) := by decide
    exact mz_iret (v := (-1)) hx hb hr rfl hlocks ⟨hIF, hIG, hIR, hFF, (fun _ _ => rfl), (fun _ _ => rfl)⟩ hM hS dX13_of_35
  · have hc13 : ¬ (v3.toInt = 0) := fun h9 => c9 ((fi_eq rfl (show (0 : Int32).toInt = 0 by decide)).mpr h9)
    have hwk_14 : 0 ≤ p1.toInt ∧ p1.toInt ≤ 7 := by omega
    refine lv_iload_n hx hb dX13_of_13 rfl (lv_at hl 2 rfl) ?_
    obtain ⟨w15, e_w15, h_w15⟩ : ∃ z : Int64, p2.toInt64 = z ∧ z.toInt = p2.toInt := ⟨_, rfl, fl_w _⟩
    refine lv_i2l (v := w15) hx hb dX13_of_14 e_w15 ?_
    refine lv_lconst (v := 0) hx hb dX13_of_15 (by decide) ?_
    refine lv_ldc2 hx hb hown (htl _ mw_316) dX13_of_16 ?_
    have hk_0 : (0 : Int64).toInt = 0 := by decide
    have hk_4 : (4 : Int64).toInt = 4 := by decide
    refine mz_Sj (As := [.long w15, .long 0, .long 4]) (rest := []) ⟨hx, hb, hml, hown, hts⟩ hK hM hS (k_X13_in l D cy ld ad am hD _ _ _ _ w15 0 4) ⟨callB_of 3 hts (wl_in mw_292) rfl rfl rfl (htl _ mw_5) (htl _ mw_290) hd_yX13_in ⟨(Nat.le_of_ble_eq_true rfl), (Nat.le_of_ble_eq_true rfl)⟩, htl _ mw_291⟩ rfl hl.1 rfl (Nat.le_of_ble_eq_true rfl) dX13_of_19 ⟨(Nat.le_of_ble_eq_true rfl), (Nat.le_of_ble_eq_true rfl)⟩ (fun v16 H locs hpo hM hS => ?_)
    obtain ⟨hpo17, hpo18, hpo19, hpo20, hpo21, hpo22⟩ := hpo
    have hq_v16 := tk_rng v16
    refine lv_if_eq (tgt := 34) hx hb dX13_of_22 (by decide) (fun c9 => ?_) (fun c9 => ?_)
    · have hc24 : v16.toInt = 0 := (fi_eq rfl (show (0 : Int32).toInt = 0 by decide)).mp c9
      refine lv_iconst (v := (-1)) hx hb dX13_of_34 (by decide) ?_
      have hk_m1 : ((-1) : Int32).toInt = (-1) := by decide
      exact mz_iret (v := (-1)) hx hb hr rfl hlocks ⟨hIF, hIG, hIR, hFF, (fun _ _ => rfl), (fun _ _ => rfl)⟩ hM hS dX13_of_35
    · have hc24 : ¬ (v16.toInt = 0) := fun h9 => c9 ((fi_eq rfl (show (0 : Int32).toInt = 0 by decide)).mpr h9)
      have hwk_25 : 0 ≤ w15.toInt ∧ w15.toInt ≤ 4 := by omega
      refine lv_aload_n hx hb dX13_of_25 rfl (lv_at hl 0 rfl) ?_
      refine lv_iload_n hx hb dX13_of_26 rfl (lv_at hl 1 rfl) ?_
      refine lv_iload_n hx hb dX13_of_27 rfl (lv_at hl 2 rfl) ?_
      refine mz_Vj (As := [.int p1, .int p2]) (rest := []) ⟨hx, hb, hml, hown, hts⟩ hK hM hS (k_X13_ofSinger l D cy ld ad am hD _ _ _ _ p1 p2 (hIF.weak) hIG hIR (by omega) (by omega) (by omega) (by omega)) ⟨callB_of 2 hts (wl_in mw_324) rfl rfl rfl (htl _ mw_5) (htl _ mw_321) hd_yX13_ofSinger ⟨(Nat.le_of_ble_eq_true rfl), (Nat.le_of_ble_eq_true rfl)⟩, htl _ mw_322, htl _ mw_323⟩ rfl hl.1 rfl (Nat.le_of_ble_eq_true rfl) dX13_of_28 ⟨(Nat.le_of_ble_eq_true rfl), (Nat.le_of_ble_eq_true rfl)⟩ (fun v26 H locs hpo hM hS => ?_)
      have hq_v26 := tk_rng v26
      refine lv_goto (tgt := 35) hx hb dX13_of_31 (by decide) ?_
      exact mz_iret (v := v26) hx hb hr rfl hlocks ⟨hIF, hIG, hIR, hFF, (fun _ _ => rfl), (fun _ _ => rfl)⟩ hM hS dX13_of_35
