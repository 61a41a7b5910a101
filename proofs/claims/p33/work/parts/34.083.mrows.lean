theorem hd_yX13_wakesOf : yX13_wakesOf.cls ≠ "java/lang/invoke/MethodHandle" ∧ yX13_wakesOf.cls ≠ "java/lang/invoke/VarHandle" ∧ (parseMethodDescriptor yX13_wakesOf.desc).map (fun d => d.parameters.length) = some 1 := by decide +kernel
theorem dX13_wakes_0 : decode cX13_wakes 0 = .ok (.aload_n 0, 1) := by decide +kernel
theorem dX13_wakes_1 : decode cX13_wakes 1 = .ok (.iconst 0, 1) := by decide +kernel
theorem dX13_wakes_2 : decode cX13_wakes 2 = .ok (.putfield 170, 3) := by decide +kernel
theorem dX13_wakes_5 : decode cX13_wakes 5 = .ok (.aload_n 0, 1) := by decide +kernel
theorem dX13_wakes_6 : decode cX13_wakes 6 = .ok (.iload_n 1, 1) := by decide +kernel
theorem dX13_wakes_7 : decode cX13_wakes 7 = .ok (.invokevirtual 201, 3) := by decide +kernel
theorem dX13_wakes_10 : decode cX13_wakes 10 = .ok (.ifCond .eq 11, 3) := by decide +kernel
theorem dX13_wakes_21 : decode cX13_wakes 21 = .ok (.iconst (-1), 1) := by decide +kernel
theorem dX13_wakes_22 : decode cX13_wakes 22 = .ok (.ireturn, 1) := by decide +kernel
theorem dX13_wakes_13 : decode cX13_wakes 13 = .ok (.aload_n 0, 1) := by decide +kernel
theorem dX13_wakes_14 : decode cX13_wakes 14 = .ok (.iload_n 1, 1) := by decide +kernel
theorem dX13_wakes_15 : decode cX13_wakes 15 = .ok (.invokevirtual 449, 3) := by decide +kernel
theorem dX13_wakes_18 : decode cX13_wakes 18 = .ok (.goto 4, 3) := by decide +kernel
set_option maxHeartbeats 4000000 in
set_option maxRecDepth 100000 in
theorem k_X13_wakes (l : Launch) (D : va_G) (cy : Nat → ClassId) (ld ad : Nat → Nat) (am : Nat) (hD : mz_D ad am) (Fa : Nat → Int32) (Ga : Nat → Int64) (Ra : Nat → Nat → Int32) (Sa : Nat → Nat → Int64) (p1 : Int32) (hIF : mz_IF true Fa) (hIG : mz_IG Ga) (hIR : mz_IR [] true Ra) : Met l yX13_wakes (wl yX13_wakes cX13_wakes 2 (some .int)) ({ frames := 9, cells := 0, slots := 0, locals := 560 }) (mz_p D cy ld ad am Fa Ga Ra Sa [.ref am, .int p1]) (mz_i D cy ad am (fun r F G R S => mz_IF true F ∧ mz_IG G ∧ mz_IR [] true R ∧ (∀ k : Nat, k ∉ ([0, 34, 38] : List Nat) → F k = Fa k) ∧ (∀ k : Nat, k ∉ ([] : List Nat) → R k = Ra k) ∧ (∀ k : Nat, k ∉ ([39, 40] : List Nat) → G k = Ga k) ∧ (-1) ≤ r.toInt ∧ r.toInt ≤ 999)) 0 0 (mz_W ad am) := by
  refine mz_met (y := yX13_wakes) (cc := cX13_wakes) (maxL := 2) (ret := (some .int)) (av := [.ref am, .int p1]) _ (by decide) (Nat.le_of_ble_eq_true rfl) ?_
  intro p e s m args below meth c hx hb hr hml hts htl hown hlocks hK H locs hM hS ls hl
  have hown : s.vm.findClass RX13 = some m.cls := hown
  have hl : lv_has ls 2 [(0, .ref am), (1, .int p1)] := hl
  have hr_p1 := tk_rng p1
  refine lv_aload_n hx hb dX13_wakes_0 rfl (lv_at hl 0 rfl) ?_
  refine lv_iconst (v := 0) hx hb dX13_wakes_1 (by decide) ?_
  have hk_0 : (0 : Int32).toInt = 0 := by decide
  refine mz_putI (ty := .int) (x := 0) hx hb htl hown hK hD hM hS 0 (Nat.le_of_ble_eq_true rfl) rfl (htl _ mw_286) (fun _ h9 => h9) rfl (tyX13_ok 0 (by decide)) rfl rfl dX13_wakes_2 (fun H locs F hM hS hf9 hj9 => ?_)
  have hIF := hIF.put hf9 hj9 (tk_rng _).1 (tk_rng _).2 (by decide)
  have hFF := mz_frp (K := [0, 34, 38]) (Fa := Fa) hj9 (fun _ _ => rfl) (by decide)
  have hf2 := hf9
  refine lv_aload_n hx hb dX13_wakes_5 rfl (lv_at hl 0 rfl) ?_
  refine lv_iload_n hx hb dX13_wakes_6 rfl (lv_at hl 1 rfl) ?_
  refine mz_Vj (As := [.int p1]) (rest := []) ⟨hx, hb, hml, hown, hts⟩ hK hM hS (k_X13_isSinger l D cy ld ad am hD _ _ _ _ p1 (hIF.weak) hIG hIR) ⟨callB_of 1 hts (wl_in mw_320) rfl rfl rfl (htl _ mw_5) (htl _ mw_317) hd_yX13_isSinger ⟨(Nat.le_of_ble_eq_true rfl), (Nat.le_of_ble_eq_true rfl)⟩, htl _ mw_318, htl _ mw_319⟩ rfl hl.1 rfl (Nat.le_of_ble_eq_true rfl) dX13_wakes_7 ⟨(Nat.le_of_ble_eq_true rfl), (Nat.le_of_ble_eq_true rfl)⟩ (fun v3 H locs hpo hM hS => ?_)
  obtain ⟨hpo4, hpo5, hpo6, hpo10, hpo11⟩ := hpo
  have hq_v3 := tk_rng v3
  refine lv_if_eq (tgt := 21) hx hb dX13_wakes_10 (by decide) (fun c9 => ?_) (fun c9 => ?_)
  · have hc13 : v3.toInt = 0 := (fi_eq rfl (show (0 : Int32).toInt = 0 by decide)).mp c9
    refine lv_iconst (v := (-1)) hx hb dX13_wakes_21 (by decide) ?_
    have hk_m1 : ((-1) : Int32).toInt = (-1) := by decide
    exact mz_iret (v := (-1)) hx hb hr rfl hlocks ⟨hIF, hIG, hIR, hFF, (fun _ _ => rfl), (fun _ _ => rfl), (by omega), (by omega)⟩ hM hS dX13_wakes_22
  · have hc13 : ¬ (v3.toInt = 0) := fun h9 => c9 ((fi_eq rfl (show (0 : Int32).toInt = 0 by decide)).mpr h9)
    have hwk_14 : 0 ≤ p1.toInt ∧ p1.toInt ≤ 7 := by omega
    refine lv_aload_n hx hb dX13_wakes_13 rfl (lv_at hl 0 rfl) ?_
    refine lv_iload_n hx hb dX13_wakes_14 rfl (lv_at hl 1 rfl) ?_
    refine mz_Vi (As := [.int p1]) (rest := []) ⟨hx, hb, hml, hown, hts⟩ hK hM hS (k_X13_wakesOf l D cy ld ad am hD _ _ _ _ p1 hIF hIG hIR (by omega) (by omega)) ⟨callB_of 1 hts (wl_in mw_1153) rfl rfl rfl (htl _ mw_5) (htl _ mw_1150) hd_yX13_wakesOf ⟨(Nat.le_of_ble_eq_true rfl), (Nat.le_of_ble_eq_true rfl)⟩, htl _ mw_1151, htl _ mw_1152⟩ rfl hl.1 rfl (Nat.le_of_ble_eq_true rfl) dX13_wakes_15 ⟨(Nat.le_of_ble_eq_true rfl), (Nat.le_of_ble_eq_true rfl)⟩ (fun v15 H locs F G R S hpo hM hS => ?_)
    obtain ⟨hIF, hIG, hIR, hfr9, hrr9, hgr9, hpo16, hpo17⟩ := hpo
    have hq_v15 := tk_rng v15
    have hFF := mz_fr (K := [0, 34, 38]) (Fa := Fa) hfr9 hFF (by decide)
    have hRR := mz_fr (K := []) (Fa := Ra) hrr9 (fun _ _ => rfl) (by decide)
    have hGG := mz_fr (K := [39, 40]) (Fa := Ga) hgr9 (fun _ _ => rfl) (by decide)
    have hf2 := (hfr9 0 (by decide)).trans hf2
    refine lv_goto (tgt := 22) hx hb dX13_wakes_18 (by decide) ?_
    exact mz_iret (v := v15) hx hb hr rfl hlocks ⟨hIF, hIG, hIR, hFF, hRR, hGG, (by omega), (by omega)⟩ hM hS dX13_wakes_22
