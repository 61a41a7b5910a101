theorem dX13_duel_0 : decode cX13_duel 0 = .ok (.aload_n 0, 1) := by decide +kernel
theorem dX13_duel_1 : decode cX13_duel 1 = .ok (.iconst 0, 1) := by decide +kernel
theorem dX13_duel_2 : decode cX13_duel 2 = .ok (.putfield 170, 3) := by decide +kernel
theorem dX13_duel_5 : decode cX13_duel 5 = .ok (.iload_n 1, 1) := by decide +kernel
theorem dX13_duel_6 : decode cX13_duel 6 = .ok (.i2l, 1) := by decide +kernel
theorem dX13_duel_7 : decode cX13_duel 7 = .ok (.lconst 0, 1) := by decide +kernel
theorem dX13_duel_8 : decode cX13_duel 8 = .ok (.ldc2_w 466, 3) := by decide +kernel
theorem dX13_duel_11 : decode cX13_duel 11 = .ok (.invokestatic 190, 3) := by decide +kernel
theorem dX13_duel_14 : decode cX13_duel 14 = .ok (.ifCond .eq 11, 3) := by decide +kernel
theorem dX13_duel_25 : decode cX13_duel 25 = .ok (.iconst (-1), 1) := by decide +kernel
theorem dX13_duel_26 : decode cX13_duel 26 = .ok (.ireturn, 1) := by decide +kernel
theorem dX13_duel_17 : decode cX13_duel 17 = .ok (.aload_n 0, 1) := by decide +kernel
theorem dX13_duel_18 : decode cX13_duel 18 = .ok (.iload_n 1, 1) := by decide +kernel
theorem dX13_duel_19 : decode cX13_duel 19 = .ok (.invokevirtual 194, 3) := by decide +kernel
theorem dX13_duel_22 : decode cX13_duel 22 = .ok (.goto 4, 3) := by decide +kernel
set_option maxHeartbeats 4000000 in
set_option maxRecDepth 100000 in
theorem k_X13_duel (l : Launch) (D : va_G) (cy : Nat → ClassId) (ld ad : Nat → Nat) (am : Nat) (hD : mz_D ad am) (Fa : Nat → Int32) (Ga : Nat → Int64) (Ra : Nat → Nat → Int32) (Sa : Nat → Nat → Int64) (p1 : Int32) (hIF : mz_IF true Fa) (hIG : mz_IG Ga) (hIR : mz_IR [] true Ra) : Met l yX13_duel (wl yX13_duel cX13_duel 2 (some .int)) ({ frames := 4, cells := 0, slots := 0, locals := 210 }) (mz_p D cy ld ad am Fa Ga Ra Sa [.ref am, .int p1]) (mz_i D cy ad am (fun r F G R S => mz_IF true F ∧ mz_IG G ∧ mz_IR [] true R ∧ (∀ k : Nat, k ∉ ([0] : List Nat) → F k = Fa k) ∧ (∀ k : Nat, k ∉ ([] : List Nat) → R k = Ra k) ∧ (∀ k : Nat, k ∉ ([] : List Nat) → G k = Ga k))) 0 0 (mz_W ad am) := by
  refine mz_met (y := yX13_duel) (cc := cX13_duel) (maxL := 2) (ret := (some .int)) (av := [.ref am, .int p1]) _ (by decide) (Nat.le_of_ble_eq_true rfl) ?_
  intro p e s m args below meth c hx hb hr hml hts htl hown hlocks hK H locs hM hS ls hl
  have hown : s.vm.findClass RX13 = some m.cls := hown
  have hl : lv_has ls 2 [(0, .ref am), (1, .int p1)] := hl
  have hr_p1 := tk_rng p1
  refine lv_aload_n hx hb dX13_duel_0 rfl (lv_at hl 0 rfl) ?_
  refine lv_iconst (v := 0) hx hb dX13_duel_1 (by decide) ?_
  have hk_0 : (0 : Int32).toInt = 0 := by decide
  refine mz_putI (ty := .int) (x := 0) hx hb htl hown hK hD hM hS 0 (Nat.le_of_ble_eq_true rfl) rfl (htl _ mw_286) (fun _ h9 => h9) rfl (tyX13_ok 0 (by decide)) rfl rfl dX13_duel_2 (fun H locs F hM hS hf9 hj9 => ?_)
  have hIF := hIF.put hf9 hj9 (tk_rng _).1 (tk_rng _).2 (by decide)
  have hFF := mz_frp (K := [0]) (Fa := Fa) hj9 (fun _ _ => rfl) (by decide)
  have hf2 := hf9
  refine lv_iload_n hx hb dX13_duel_5 rfl (lv_at hl 1 rfl) ?_
  obtain ⟨w3, e_w3, h_w3⟩ : ∃ z : Int64, p1.toInt64 = z ∧ z.toInt = p1.toInt := ⟨_, rfl, fl_w _⟩
  refine lv_i2l (v := w3) hx hb dX13_duel_6 e_w3 ?_
  refine lv_lconst (v := 0) hx hb dX13_duel_7 (by decide) ?_
  refine lv_ldc2 hx hb hown (htl _ mw_1238) dX13_duel_8 ?_
  have hk_0 : (0 : Int64).toInt = 0 := by decide
  have hk_5 : (5 : Int64).toInt = 5 := by decide
  refine mz_Sj (As := [.long w3, .long 0, .long 5]) (rest := []) ⟨hx, hb, hml, hown, hts⟩ hK hM hS (k_X13_in l D cy ld ad am hD _ _ _ _ w3 0 5) ⟨callB_of 3 hts (wl_in mw_292) rfl rfl rfl (htl _ mw_5) (htl _ mw_290) hd_yX13_in ⟨(Nat.le_of_ble_eq_true rfl), (Nat.le_of_ble_eq_true rfl)⟩, htl _ mw_291⟩ rfl hl.1 rfl (Nat.le_of_ble_eq_true rfl) dX13_duel_11 ⟨(Nat.le_of_ble_eq_true rfl), (Nat.le_of_ble_eq_true rfl)⟩ (fun v4 H locs hpo hM hS => ?_)
  obtain ⟨hpo5, hpo6, hpo10, hpo11, hpo12, hpo13⟩ := hpo
  have hq_v4 := tk_rng v4
  refine lv_if_eq (tgt := 25) hx hb dX13_duel_14 (by decide) (fun c9 => ?_) (fun c9 => ?_)
  · have hc15 : v4.toInt = 0 := (fi_eq rfl (show (0 : Int32).toInt = 0 by decide)).mp c9
    refine lv_iconst (v := (-1)) hx hb dX13_duel_25 (by decide) ?_
    have hk_m1 : ((-1) : Int32).toInt = (-1) := by decide
    exact mz_iret (v := (-1)) hx hb hr rfl hlocks ⟨hIF, hIG, hIR, hFF, (fun _ _ => rfl), (fun _ _ => rfl)⟩ hM hS dX13_duel_26
  · have hc15 : ¬ (v4.toInt = 0) := fun h9 => c9 ((fi_eq rfl (show (0 : Int32).toInt = 0 by decide)).mpr h9)
    have hwk_16 : 0 ≤ w3.toInt ∧ w3.toInt ≤ 5 := by omega
    refine lv_aload_n hx hb dX13_duel_17 rfl (lv_at hl 0 rfl) ?_
    refine lv_iload_n hx hb dX13_duel_18 rfl (lv_at hl 1 rfl) ?_
    refine mz_Vj (As := [.int p1]) (rest := []) ⟨hx, hb, hml, hown, hts⟩ hK hM hS (k_X13_inDuel l D cy ld ad am hD _ _ _ _ p1 (hIF.weak) hIG hIR (by omega) (by omega)) ⟨callB_of 1 hts (wl_in mw_1046) rfl rfl rfl (htl _ mw_5) (htl _ mw_1043) hd_yX13_inDuel ⟨(Nat.le_of_ble_eq_true rfl), (Nat.le_of_ble_eq_true rfl)⟩, htl _ mw_1044, htl _ mw_1045⟩ rfl hl.1 rfl (Nat.le_of_ble_eq_true rfl) dX13_duel_19 ⟨(Nat.le_of_ble_eq_true rfl), (Nat.le_of_ble_eq_true rfl)⟩ (fun v17 H locs hpo hM hS => ?_)
    have hq_v17 := tk_rng v17
    refine lv_goto (tgt := 26) hx hb dX13_duel_22 (by decide) ?_
    exact mz_iret (v := v17) hx hb hr rfl hlocks ⟨hIF, hIG, hIR, hFF, (fun _ _ => rfl), (fun _ _ => rfl)⟩ hM hS dX13_duel_26
