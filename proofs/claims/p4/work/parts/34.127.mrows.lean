theorem dX13_rule_0 : decode cX13_rule 0 = .ok (.aload_n 0, 1) := by decide +kernel
theorem dX13_rule_1 : decode cX13_rule 1 = .ok (.iconst 0, 1) := by decide +kernel
theorem dX13_rule_2 : decode cX13_rule 2 = .ok (.putfield 170, 3) := by decide +kernel
theorem dX13_rule_5 : decode cX13_rule 5 = .ok (.aload_n 0, 1) := by decide +kernel
theorem dX13_rule_6 : decode cX13_rule 6 = .ok (.iload_n 1, 1) := by decide +kernel
theorem dX13_rule_7 : decode cX13_rule 7 = .ok (.iload_n 2, 1) := by decide +kernel
theorem dX13_rule_8 : decode cX13_rule 8 = .ok (.invokevirtual 529, 3) := by decide +kernel
theorem dX13_rule_11 : decode cX13_rule 11 = .ok (.ifCond .eq 14, 3) := by decide +kernel
theorem dX13_rule_25 : decode cX13_rule 25 = .ok (.sipush (-1000), 3) := by decide +kernel
theorem dX13_rule_28 : decode cX13_rule 28 = .ok (.ireturn, 1) := by decide +kernel
theorem dX13_rule_14 : decode cX13_rule 14 = .ok (.aload_n 0, 1) := by decide +kernel
theorem dX13_rule_15 : decode cX13_rule 15 = .ok (.iload_n 1, 1) := by decide +kernel
theorem dX13_rule_16 : decode cX13_rule 16 = .ok (.iload_n 2, 1) := by decide +kernel
theorem dX13_rule_17 : decode cX13_rule 17 = .ok (.iconst (-1), 1) := by decide +kernel
theorem dX13_rule_18 : decode cX13_rule 18 = .ok (.iconst (-1), 1) := by decide +kernel
theorem dX13_rule_19 : decode cX13_rule 19 = .ok (.invokevirtual 535, 3) := by decide +kernel
theorem dX13_rule_22 : decode cX13_rule 22 = .ok (.goto 6, 3) := by decide +kernel
set_option maxHeartbeats 4000000 in
set_option maxRecDepth 100000 in
theorem k_X13_rule (l : Launch) (D : va_G) (cy : Nat → ClassId) (ld ad : Nat → Nat) (am : Nat) (hD : mz_D ad am) (Fa : Nat → Int32) (Ga : Nat → Int64) (Ra : Nat → Nat → Int32) (Sa : Nat → Nat → Int64) (p1 : Int32) (p2 : Int32) (hIF : mz_IF true Fa) (hIG : mz_IG Ga) (hIR : mz_IR [] true Ra) : Met l yX13_rule (wl yX13_rule cX13_rule 3 (some .int)) ({ frames := 13, cells := 0, slots := 0, locals := 840 }) (mz_p D cy ld ad am Fa Ga Ra Sa [.ref am, .int p1, .int p2]) (mz_i D cy ad am (fun r F G R S => mz_IF true F ∧ mz_IG G ∧ mz_IR [] true R ∧ (∀ k : Nat, k ∉ ([0, 34, 38, 41] : List Nat) → F k = Fa k) ∧ (∀ k : Nat, k ∉ ([3, 6] : List Nat) → R k = Ra k) ∧ (∀ k : Nat, k ∉ ([39, 40, 47] : List Nat) → G k = Ga k) ∧ rK1 (Ra 3) (R 3) ∧ (-1000) ≤ r.toInt ∧ r.toInt ≤ 1)) 0 0 (mz_W ad am) := by
  refine mz_met (y := yX13_rule) (cc := cX13_rule) (maxL := 3) (ret := (some .int)) (av := [.ref am, .int p1, .int p2]) _ (by decide) (Nat.le_of_ble_eq_true rfl) ?_
  intro p e s m args below meth c hx hb hr hml hts htl hown hlocks hK H locs hM hS ls hl
  have hown : s.vm.findClass RX13 = some m.cls := hown
  have hl : lv_has ls 3 [(0, .ref am), (1, .int p1), (2, .int p2)] := hl
  have hr_p1 := tk_rng p1
  have hr_p2 := tk_rng p2
  refine lv_aload_n hx hb dX13_rule_0 rfl (lv_at hl 0 rfl) ?_
  refine lv_iconst (v := 0) hx hb dX13_rule_1 (by decide) ?_
  have hk_0 : (0 : Int32).toInt = 0 := by decide
  refine mz_putI (ty := .int) (x := 0) hx hb htl hown hK hD hM hS 0 (Nat.le_of_ble_eq_true rfl) rfl (htl _ mw_286) (fun _ h9 => h9) rfl (tyX13_ok 0 (by decide)) rfl rfl dX13_rule_2 (fun H locs F hM hS hf9 hj9 => ?_)
  have hIF := hIF.put hf9 hj9 (tk_rng _).1 (tk_rng _).2 (by decide)
  have hFF := mz_frp (K := [0, 34, 38, 41]) (Fa := Fa) hj9 (fun _ _ => rfl) (by decide)
  have hf2 := hf9
  refine lv_aload_n hx hb dX13_rule_5 rfl (lv_at hl 0 rfl) ?_
  refine lv_iload_n hx hb dX13_rule_6 rfl (lv_at hl 1 rfl) ?_
  refine lv_iload_n hx hb dX13_rule_7 rfl (lv_at hl 2 rfl) ?_
  refine mz_Vj (As := [.int p1, .int p2]) (rest := []) ⟨hx, hb, hml, hown, hts⟩ hK hM hS (k_X13_areFoes l D cy ld ad am hD _ _ _ _ p1 p2 (hIF.weak) hIG hIR) ⟨callB_of 2 hts (wl_in mw_1365) rfl rfl rfl (htl _ mw_5) (htl _ mw_1362) hd_yX13_areFoes ⟨(Nat.le_of_ble_eq_true rfl), (Nat.le_of_ble_eq_true rfl)⟩, htl _ mw_1363, htl _ mw_1364⟩ rfl hl.1 rfl (Nat.le_of_ble_eq_true rfl) dX13_rule_8 ⟨(Nat.le_of_ble_eq_true rfl), (Nat.le_of_ble_eq_true rfl)⟩ (fun v3 H locs hpo hM hS => ?_)
  obtain ⟨hpo4, hpo5, hpo6, hpo10, hpo11⟩ := hpo
  have hq_v3 := tk_rng v3
  refine lv_if_eq (tgt := 25) hx hb dX13_rule_11 (by decide) (fun c9 => ?_) (fun c9 => ?_)
  · have hc13 : v3.toInt = 0 := (fi_eq rfl (show (0 : Int32).toInt = 0 by decide)).mp c9
    refine lv_sipush (v := (-1000)) hx hb dX13_rule_25 (by decide) ?_
    have hk_m1000 : ((-1000) : Int32).toInt = (-1000) := by decide
    exact mz_iret (v := (-1000)) hx hb hr rfl hlocks ⟨hIF, hIG, hIR, hFF, (fun _ _ => rfl), (fun _ _ => rfl), (rK1.refl rfl), (by omega), (by omega)⟩ hM hS dX13_rule_28
  · have hc13 : ¬ (v3.toInt = 0) := fun h9 => c9 ((fi_eq rfl (show (0 : Int32).toInt = 0 by decide)).mpr h9)
    have hwk_14 : 0 ≤ p1.toInt ∧ p1.toInt ≤ 7 ∧ 0 ≤ p2.toInt ∧ p2.toInt ≤ 7 := by omega
    refine lv_aload_n hx hb dX13_rule_14 rfl (lv_at hl 0 rfl) ?_
    refine lv_iload_n hx hb dX13_rule_15 rfl (lv_at hl 1 rfl) ?_
    refine lv_iload_n hx hb dX13_rule_16 rfl (lv_at hl 2 rfl) ?_
    refine lv_iconst (v := (-1)) hx hb dX13_rule_17 (by decide) ?_
    refine lv_iconst (v := (-1)) hx hb dX13_rule_18 (by decide) ?_
    have hk_m1 : ((-1) : Int32).toInt = (-1) := by decide
    have hk_m1 : ((-1) : Int32).toInt = (-1) := by decide
    refine mz_Vi (As := [.int p1, .int p2, .int (-1), .int (-1)]) (rest := []) ⟨hx, hb, hml, hown, hts⟩ hK hM hS (k_X13_resultOnPaper l D cy ld ad am hD _ _ _ _ p1 p2 (-1) (-1) hIF hIG hIR (by omega) (by omega) (by omega) (by omega) (by omega) (by omega) (by omega) (by omega)) ⟨callB_of 4 hts (wl_in mw_1369) rfl rfl rfl (htl _ mw_5) (htl _ mw_1366) hd_yX13_resultOnPaper ⟨(Nat.le_of_ble_eq_true rfl), (Nat.le_of_ble_eq_true rfl)⟩, htl _ mw_1367, htl _ mw_1368⟩ rfl hl.1 rfl (Nat.le_of_ble_eq_true rfl) dX13_rule_19 ⟨(Nat.le_of_ble_eq_true rfl), (Nat.le_of_ble_eq_true rfl)⟩ (fun v15 H locs F G R S hpo hM hS => ?_)
    obtain ⟨hIF, hIG, hIR, hfr9, hrr9, hgr9, hrel9, hpo16, hpo17⟩ := hpo
    have hq_v15 := tk_rng v15
    have hFF := mz_fr (K := [0, 34, 38, 41]) (Fa := Fa) hfr9 hFF (by decide)
    have hRR := mz_fr (K := [3, 6]) (Fa := Ra) hrr9 (fun _ _ => rfl) (by decide)
    have hGG := mz_fr (K := [39, 40, 47]) (Fa := Ga) hgr9 (fun _ _ => rfl) (by decide)
    have hrel := (rK1.refl rfl).trans hrel9
    have hf2 := (hfr9 0 (by decide)).trans hf2
    refine lv_goto (tgt := 28) hx hb dX13_rule_22 (by decide) ?_
    exact mz_iret (v := v15) hx hb hr rfl hlocks ⟨hIF, hIG, hIR, hFF, hRR, hGG, hrel, (by omega), (by omega)⟩ hM hS dX13_rule_28
