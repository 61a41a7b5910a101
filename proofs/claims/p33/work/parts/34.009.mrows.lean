theorem hd_yX13_putBack : yX13_putBack.cls ≠ "java/lang/invoke/MethodHandle" ∧ yX13_putBack.cls ≠ "java/lang/invoke/VarHandle" ∧ (parseMethodDescriptor yX13_putBack.desc).map (fun d => d.parameters.length) = some 1 := by decide +kernel
theorem hd_yX13_tell : yX13_tell.cls ≠ "java/lang/invoke/MethodHandle" ∧ yX13_tell.cls ≠ "java/lang/invoke/VarHandle" ∧ (parseMethodDescriptor yX13_tell.desc).map (fun d => d.parameters.length) = some 1 := by decide +kernel
theorem dX13_undo_0 : decode cX13_undo 0 = .ok (.aload_n 0, 1) := by decide +kernel
theorem dX13_undo_1 : decode cX13_undo 1 = .ok (.iconst 0, 1) := by decide +kernel
theorem dX13_undo_2 : decode cX13_undo 2 = .ok (.putfield 170, 3) := by decide +kernel
theorem dX13_undo_5 : decode cX13_undo 5 = .ok (.aload_n 0, 1) := by decide +kernel
theorem dX13_undo_6 : decode cX13_undo 6 = .ok (.getfield 176, 3) := by decide +kernel
theorem dX13_undo_9 : decode cX13_undo 9 = .ok (.ifCond .ne 10, 3) := by decide +kernel
theorem dX13_undo_19 : decode cX13_undo 19 = .ok (.aload_n 0, 1) := by decide +kernel
theorem dX13_undo_20 : decode cX13_undo 20 = .ok (.dup, 1) := by decide +kernel
theorem dX13_undo_21 : decode cX13_undo 21 = .ok (.getfield 176, 3) := by decide +kernel
theorem dX13_undo_24 : decode cX13_undo 24 = .ok (.iconst 1, 1) := by decide +kernel
theorem dX13_undo_25 : decode cX13_undo 25 = .ok (.isub, 1) := by decide +kernel
theorem dX13_undo_26 : decode cX13_undo 26 = .ok (.putfield 176, 3) := by decide +kernel
theorem dX13_undo_29 : decode cX13_undo 29 = .ok (.aload_n 0, 1) := by decide +kernel
theorem dX13_undo_30 : decode cX13_undo 30 = .ok (.aload_n 0, 1) := by decide +kernel
theorem dX13_undo_31 : decode cX13_undo 31 = .ok (.getfield 176, 3) := by decide +kernel
theorem dX13_undo_34 : decode cX13_undo 34 = .ok (.invokevirtual 187, 3) := by decide +kernel
theorem dX13_undo_37 : decode cX13_undo 37 = .ok (.aload_n 0, 1) := by decide +kernel
theorem dX13_undo_38 : decode cX13_undo 38 = .ok (.aload_n 0, 1) := by decide +kernel
theorem dX13_undo_39 : decode cX13_undo 39 = .ok (.getfield 26, 3) := by decide +kernel
theorem dX13_undo_42 : decode cX13_undo 42 = .ok (.aload_n 0, 1) := by decide +kernel
theorem dX13_undo_43 : decode cX13_undo 43 = .ok (.getfield 176, 3) := by decide +kernel
theorem dX13_undo_46 : decode cX13_undo 46 = .ok (.iaload, 1) := by decide +kernel
theorem dX13_undo_47 : decode cX13_undo 47 = .ok (.invokevirtual 183, 3) := by decide +kernel
theorem dX13_undo_50 : decode cX13_undo 50 = .ok (.ireturn, 1) := by decide +kernel
theorem dX13_undo_12 : decode cX13_undo 12 = .ok (.aload_n 0, 1) := by decide +kernel
theorem dX13_undo_13 : decode cX13_undo 13 = .ok (.bipush (-3), 2) := by decide +kernel
theorem dX13_undo_15 : decode cX13_undo 15 = .ok (.invokevirtual 183, 3) := by decide +kernel
theorem dX13_undo_18 : decode cX13_undo 18 = .ok (.ireturn, 1) := by decide +kernel
set_option maxHeartbeats 4000000 in
set_option maxRecDepth 100000 in
theorem k_X13_undo (l : Launch) (D : va_G) (cy : Nat → ClassId) (ld ad : Nat → Nat) (am : Nat) (hD : mz_D ad am) (Fa : Nat → Int32) (Ga : Nat → Int64) (Ra : Nat → Nat → Int32) (Sa : Nat → Nat → Int64) (hIF : mz_IF true Fa) (hIG : mz_IG Ga) (hIR : mz_IR [] true Ra) : Met l yX13_undo (wl yX13_undo cX13_undo 1 (some .int)) ({ frames := 4, cells := 0, slots := 0, locals := 210 }) (mz_p D cy ld ad am Fa Ga Ra Sa [.ref am]) (mz_i D cy ad am (fun r F G R S => mz_IF true F ∧ mz_IG G ∧ mz_IR [] true R ∧ (∀ k : Nat, k ∉ ([0, 1, 8] : List Nat) → F k = Fa k) ∧ (∀ k : Nat, k ∉ ([2, 3] : List Nat) → R k = Ra k) ∧ (∀ k : Nat, k ∉ ([] : List Nat) → G k = Ga k) ∧ rK1 (Ra 3) (R 3) ∧ (-3) ≤ r.toInt ∧ r.toInt ≤ 3)) 0 0 (mz_W ad am) := by
  refine mz_met (y := yX13_undo) (cc := cX13_undo) (maxL := 1) (ret := (some .int)) (av := [.ref am]) _ (by decide) (Nat.le_of_ble_eq_true rfl) ?_
  intro p e s m args below meth c hx hb hr hml hts htl hown hlocks hK H locs hM hS ls hl
  have hown : s.vm.findClass RX13 = some m.cls := hown
  have hl : lv_has ls 1 [(0, .ref am)] := hl
  refine lv_aload_n hx hb dX13_undo_0 rfl (lv_at hl 0 rfl) ?_
  refine lv_iconst (v := 0) hx hb dX13_undo_1 (by decide) ?_
  have hk_0 : (0 : Int32).toInt = 0 := by decide
  refine mz_putI (ty := .int) (x := 0) hx hb htl hown hK hD hM hS 0 (Nat.le_of_ble_eq_true rfl) rfl (htl _ mw_286) (fun _ h9 => h9) rfl (tyX13_ok 0 (by decide)) rfl rfl dX13_undo_2 (fun H locs F hM hS hf9 hj9 => ?_)
  have hIF := hIF.put hf9 hj9 (tk_rng _).1 (tk_rng _).2 (by decide)
  have hFF := mz_frp (K := [0, 1, 8]) (Fa := Fa) hj9 (fun _ _ => rfl) (by decide)
  have hf2 := hf9
  refine lv_aload_n hx hb dX13_undo_5 rfl (lv_at hl 0 rfl) ?_
  refine mz_getI hx hb htl hown hK hM 8 (Nat.le_of_ble_eq_true rfl) rfl (htl _ mw_289) (fun _ h9 => h9) dX13_undo_6 (fun v4 hf3 => ?_)
  have hq_v4 := tk_rng v4
  have hr_v4 : 0 ≤ v4.toInt ∧ v4.toInt ≤ 16 := hIF.at hf3
  refine lv_if_ne (tgt := 19) hx hb dX13_undo_9 (by decide) (fun c9 => ?_) (fun c9 => ?_)
  · have hc5 : ¬ (v4.toInt = 0) := fun h9 => c9 ((fi_eq rfl (show (0 : Int32).toInt = 0 by decide)).mpr h9)
    refine lv_aload_n hx hb dX13_undo_19 rfl (lv_at hl 0 rfl) ?_
    refine lv_dup hx hb dX13_undo_20 rfl ?_
    refine mz_getI hx hb htl hown hK hM 8 (Nat.le_of_ble_eq_true rfl) rfl (htl _ mw_289) (fun _ h9 => h9) dX13_undo_21 (fun v9 e9 => ?_)
    refine fx_ti (v := v4) (e9.symm.trans hf3) ?_
    refine lv_iconst (v := 1) hx hb dX13_undo_24 (by decide) ?_
    refine lv_isub hx hb dX13_undo_25 ?_
    refine tk_sub rfl (show (1 : Int32).toInt = 1 by decide) (by omega) (by omega) (fun v6 h_v6 => ?_)
    refine mz_putI (ty := .int) (x := v6) hx hb htl hown hK hD hM hS 8 (Nat.le_of_ble_eq_true rfl) rfl (htl _ mw_289) (fun _ h9 => h9) rfl (tyX13_ok 8 (by decide)) rfl rfl dX13_undo_26 (fun H locs F hM hS hf9 hj9 => ?_)
    have hIF := hIF.put hf9 hj9 (show 0 ≤ (v6 : Int32).toInt by omega) (show (v6 : Int32).toInt ≤ 16 by omega) (by decide)
    have hFF := mz_frp (K := [0, 1, 8]) (Fa := Fa) hj9 hFF (by decide)
    have hf2 := (hj9 0 (by decide)).trans hf2
    have hf11 := hf9
    refine lv_aload_n hx hb dX13_undo_29 rfl (lv_at hl 0 rfl) ?_
    refine lv_aload_n hx hb dX13_undo_30 rfl (lv_at hl 0 rfl) ?_
    refine mz_getI hx hb htl hown hK hM 8 (Nat.le_of_ble_eq_true rfl) rfl (htl _ mw_289) (fun _ h9 => h9) dX13_undo_31 (fun v9 e9 => ?_)
    refine fx_ti (v := v6) (e9.symm.trans hf11) ?_
    refine mz_Vv (As := [.int v6]) (rest := []) ⟨hx, hb, hml, hown, hts⟩ hK hM hS (k_X13_putBack l D cy ld ad am hD _ _ _ _ v6 hIF hIG hIR (by omega) (by omega)) ⟨callB_of 1 hts (wl_in mw_1162) rfl rfl rfl (htl _ mw_5) (htl _ mw_1159) hd_yX13_putBack ⟨(Nat.le_of_ble_eq_true rfl), (Nat.le_of_ble_eq_true rfl)⟩, htl _ mw_1160, htl _ mw_1161⟩ rfl hl.1 rfl (Nat.le_of_ble_eq_true rfl) dX13_undo_34 ⟨(Nat.le_of_ble_eq_true rfl), (Nat.le_of_ble_eq_true rfl)⟩ (fun H locs F G R S hpo hM hS => ?_)
    obtain ⟨hIF, hIG, hIR, hfr9, hrr9, hgr9, hrel9⟩ := hpo
    have hFF := mz_fr (K := [0, 1, 8]) (Fa := Fa) hfr9 hFF (by decide)
    have hRR := mz_fr (K := [2, 3]) (Fa := Ra) hrr9 (fun _ _ => rfl) (by decide)
    have hGG := mz_fr (K := []) (Fa := Ga) hgr9 (fun _ _ => rfl) (by decide)
    have hrel := (rK1.refl rfl).trans hrel9
    have hf2 := (hfr9 0 (by decide)).trans hf2
    have hf11 := (hfr9 8 (by decide)).trans hf11
    refine lv_aload_n hx hb dX13_undo_37 rfl (lv_at hl 0 rfl) ?_
    refine lv_aload_n hx hb dX13_undo_38 rfl (lv_at hl 0 rfl) ?_
    refine mz_getR hx hb htl hown hK hM 7 (Nat.le_of_ble_eq_true rfl) (Nat.le_of_ble_eq_true rfl) (htl _ mw_192) (fun _ h9 => h9) dX13_undo_39 ?_
    refine lv_aload_n hx hb dX13_undo_42 rfl (lv_at hl 0 rfl) ?_
    refine mz_getI hx hb htl hown hK hM 8 (Nat.le_of_ble_eq_true rfl) rfl (htl _ mw_289) (fun _ h9 => h9) dX13_undo_43 (fun v9 e9 => ?_)
    refine fx_ti (v := v6) (e9.symm.trans hf11) ?_
    refine mz_iald hx hb hK hM 7 (Nat.le_of_ble_eq_true rfl) rfl (nn := 16) rfl rfl (by omega) (by omega) dX13_undo_46 (fun v13 e_v13 => ?_)
    have hq_v13 := tk_rng v13
    have he_v13 : 0 ≤ v13.toInt ∧ v13.toInt ≤ 3 := mz_elg (n := 16) (hIR.at 7) e_v13 rfl (by omega) (by omega)
    refine mz_Vi (As := [.int v13]) (rest := []) ⟨hx, hb, hml, hown, hts⟩ hK hM hS (k_X13_tell l D cy ld ad am hD _ _ _ _ v13 hIF hIG hIR (by omega) (by omega)) ⟨callB_of 1 hts (wl_in mw_296) rfl rfl rfl (htl _ mw_5) (htl _ mw_293) hd_yX13_tell ⟨(Nat.le_of_ble_eq_true rfl), (Nat.le_of_ble_eq_true rfl)⟩, htl _ mw_294, htl _ mw_295⟩ rfl hl.1 rfl (Nat.le_of_ble_eq_true rfl) dX13_undo_47 ⟨(Nat.le_of_ble_eq_true rfl), (Nat.le_of_ble_eq_true rfl)⟩ (fun v14 H locs F G R S hpo hM hS => ?_)
    obtain ⟨hIF, hIG, hIR, hfr9, hrr9, hgr9, hpo15⟩ := hpo
    have hq_v14 := tk_rng v14
    have hFF := mz_fr (K := [0, 1, 8]) (Fa := Fa) hfr9 hFF (by decide)
    have hRR := mz_fr (K := [2, 3]) (Fa := Ra) hrr9 hRR (by decide)
    have hGG := mz_fr (K := []) (Fa := Ga) hgr9 hGG (by decide)
    have hrel : rK1 (Ra 3) (R 3) := hrel.trans (rK1.refl (hrr9 3 (by decide)))
    have e_v13 : R 7 (v6 : Int32).toNatClampNeg = _ := (congrFun (hrr9 7 (by decide)) _).trans e_v13
    have hf2 := (hfr9 0 (by decide)).trans hf2
    have hf11 := (hfr9 8 (by decide)).trans hf11
    exact mz_iret (v := v14) hx hb hr rfl hlocks ⟨hIF, hIG, hIR, hFF, hRR, hGG, hrel, (by omega), (by omega)⟩ hM hS dX13_undo_50
  · have hc5 : v4.toInt = 0 := (fi_eq rfl (show (0 : Int32).toInt = 0 by decide)).mp c9
    refine lv_aload_n hx hb dX13_undo_12 rfl (lv_at hl 0 rfl) ?_
    refine lv_bipush (v := (-3)) hx hb dX13_undo_13 (by decide) ?_
    have hk_m3 : ((-3) : Int32).toInt = (-3) := by decide
    refine mz_Vi (As := [.int (-3)]) (rest := []) ⟨hx, hb, hml, hown, hts⟩ hK hM hS (k_X13_tell l D cy ld ad am hD _ _ _ _ (-3) hIF hIG hIR (by omega) (by omega)) ⟨callB_of 1 hts (wl_in mw_296) rfl rfl rfl (htl _ mw_5) (htl _ mw_293) hd_yX13_tell ⟨(Nat.le_of_ble_eq_true rfl), (Nat.le_of_ble_eq_true rfl)⟩, htl _ mw_294, htl _ mw_295⟩ rfl hl.1 rfl (Nat.le_of_ble_eq_true rfl) dX13_undo_15 ⟨(Nat.le_of_ble_eq_true rfl), (Nat.le_of_ble_eq_true rfl)⟩ (fun v17 H locs F G R S hpo hM hS => ?_)
    obtain ⟨hIF, hIG, hIR, hfr9, hrr9, hgr9, hpo18⟩ := hpo
    have hq_v17 := tk_rng v17
    have hFF := mz_fr (K := [0, 1, 8]) (Fa := Fa) hfr9 hFF (by decide)
    have hRR := mz_fr (K := [2, 3]) (Fa := Ra) hrr9 (fun _ _ => rfl) (by decide)
    have hGG := mz_fr (K := []) (Fa := Ga) hgr9 (fun _ _ => rfl) (by decide)
    have hrel : rK1 (Ra 3) (R 3) := (rK1.refl rfl).trans (rK1.refl (hrr9 3 (by decide)))
    have hf2 := (hfr9 0 (by decide)).trans hf2
    have hf3 := (hfr9 8 (by decide)).trans hf3
    exact mz_iret (v := v17) hx hb hr rfl hlocks ⟨hIF, hIG, hIR, hFF, hRR, hGG, hrel, (by omega), (by omega)⟩ hM hS dX13_undo_18
