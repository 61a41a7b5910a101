theorem hd_yX13_dawnNow : yX13_dawnNow.cls ≠ "java/lang/invoke/MethodHandle" ∧ yX13_dawnNow.cls ≠ "java/lang/invoke/VarHandle" ∧ (parseMethodDescriptor yX13_dawnNow.desc).map (fun d => d.parameters.length) = some 0 := by decide +kernel
theorem dX13_dawn_0 : decode cX13_dawn 0 = .ok (.aload_n 0, 1) := by decide +kernel
theorem dX13_dawn_1 : decode cX13_dawn 1 = .ok (.iconst 0, 1) := by decide +kernel
theorem dX13_dawn_2 : decode cX13_dawn 2 = .ok (.putfield 170, 3) := by decide +kernel
theorem dX13_dawn_5 : decode cX13_dawn 5 = .ok (.aload_n 0, 1) := by decide +kernel
theorem dX13_dawn_6 : decode cX13_dawn 6 = .ok (.aload_n 0, 1) := by decide +kernel
theorem dX13_dawn_7 : decode cX13_dawn 7 = .ok (.invokevirtual 489, 3) := by decide +kernel
theorem dX13_dawn_10 : decode cX13_dawn 10 = .ok (.invokevirtual 183, 3) := by decide +kernel
theorem dX13_dawn_13 : decode cX13_dawn 13 = .ok (.ireturn, 1) := by decide +kernel
set_option maxHeartbeats 4000000 in
set_option maxRecDepth 100000 in
theorem k_X13_dawn (l : Launch) (D : va_G) (cy : Nat → ClassId) (ld ad : Nat → Nat) (am : Nat) (hD : mz_D ad am) (Fa : Nat → Int32) (Ga : Nat → Int64) (Ra : Nat → Nat → Int32) (Sa : Nat → Nat → Int64) (hIF : mz_IF true Fa) (hIG : mz_IG Ga) (hIR : mz_IR [] true Ra) : Met l yX13_dawn (wl yX13_dawn cX13_dawn 1 (some .int)) ({ frames := 11, cells := 0, slots := 0, locals := 700 }) (mz_p D cy ld ad am Fa Ga Ra Sa [.ref am]) (mz_i D cy ad am (fun r F G R S => mz_IF true F ∧ mz_IG G ∧ mz_IR [] true R ∧ (∀ k : Nat, k ∉ ([0, 1, 8, 34, 38] : List Nat) → F k = Fa k) ∧ (∀ k : Nat, k ∉ ([2, 3, 6, 7, 42] : List Nat) → R k = Ra k) ∧ (∀ k : Nat, k ∉ ([39, 40] : List Nat) → G k = Ga k) ∧ rK1 (Ra 3) (R 3) ∧ (-3) ≤ r.toInt ∧ r.toInt ≤ 8)) 0 0 (mz_W ad am) := by
  refine mz_met (y := yX13_dawn) (cc := cX13_dawn) (maxL := 1) (ret := (some .int)) (av := [.ref am]) _ (by decide) (Nat.le_of_ble_eq_true rfl) ?_
  intro p e s m args below meth c hx hb hr hml hts htl hown hlocks hK H locs hM hS ls hl
  have hown : s.vm.findClass RX13 = some m.cls := hown
  have hl : lv_has ls 1 [(0, .ref am)] := hl
  refine lv_aload_n hx hb dX13_dawn_0 rfl (lv_at hl 0 rfl) ?_
  refine lv_iconst (v := 0) hx hb dX13_dawn_1 (by decide) ?_
  have hk_0 : (0 : Int32).toInt = 0 := by decide
  refine mz_putI (ty := .int) (x := 0) hx hb htl hown hK hD hM hS 0 (Nat.le_of_ble_eq_true rfl) rfl (htl _ mw_286) (fun _ h9 => h9) rfl (tyX13_ok 0 (by decide)) rfl rfl dX13_dawn_2 (fun H locs F hM hS hf9 hj9 => ?_)
  have hIF := hIF.put hf9 hj9 (tk_rng _).1 (tk_rng _).2 (by decide)
  have hFF := mz_frp (K := [0, 1, 8, 34, 38]) (Fa := Fa) hj9 (fun _ _ => rfl) (by decide)
  have hf2 := hf9
  refine lv_aload_n hx hb dX13_dawn_5 rfl (lv_at hl 0 rfl) ?_
  refine lv_aload_n hx hb dX13_dawn_6 rfl (lv_at hl 0 rfl) ?_
  refine mz_Vi (As := []) (rest := [.ref am]) ⟨hx, hb, hml, hown, hts⟩ hK hM hS (k_X13_dawnNow l D cy ld ad am hD _ _ _ _ hIF hIG hIR) ⟨callB_of 0 hts (wl_in mw_1145) rfl rfl rfl (htl _ mw_5) (htl _ mw_1142) hd_yX13_dawnNow ⟨(Nat.le_of_ble_eq_true rfl), (Nat.le_of_ble_eq_true rfl)⟩, htl _ mw_1143, htl _ mw_1144⟩ rfl hl.1 rfl (Nat.le_of_ble_eq_true rfl) dX13_dawn_7 ⟨(Nat.le_of_ble_eq_true rfl), (Nat.le_of_ble_eq_true rfl)⟩ (fun v3 H locs F G R S hpo hM hS => ?_)
  obtain ⟨hIF, hIG, hIR, hfr9, hrr9, hgr9, hrel9, hpo4, hpo5⟩ := hpo
  have hq_v3 := tk_rng v3
  have hFF := mz_fr (K := [0, 1, 8, 34, 38]) (Fa := Fa) hfr9 hFF (by decide)
  have hRR := mz_fr (K := [2, 3, 6, 7, 42]) (Fa := Ra) hrr9 (fun _ _ => rfl) (by decide)
  have hGG := mz_fr (K := [39, 40]) (Fa := Ga) hgr9 (fun _ _ => rfl) (by decide)
  have hrel := (rK1.refl rfl).trans hrel9
  have hf2 := (hfr9 0 (by decide)).trans hf2
  refine mz_Vi (As := [.int v3]) (rest := []) ⟨hx, hb, hml, hown, hts⟩ hK hM hS (k_X13_tell l D cy ld ad am hD _ _ _ _ v3 hIF hIG hIR (by omega) (by omega)) ⟨callB_of 1 hts (wl_in mw_296) rfl rfl rfl (htl _ mw_5) (htl _ mw_293) hd_yX13_tell ⟨(Nat.le_of_ble_eq_true rfl), (Nat.le_of_ble_eq_true rfl)⟩, htl _ mw_294, htl _ mw_295⟩ rfl hl.1 rfl (Nat.le_of_ble_eq_true rfl) dX13_dawn_10 ⟨(Nat.le_of_ble_eq_true rfl), (Nat.le_of_ble_eq_true rfl)⟩ (fun v10 H locs F G R S hpo hM hS => ?_)
  obtain ⟨hIF, hIG, hIR, hfr9, hrr9, hgr9, hpo11⟩ := hpo
  have hq_v10 := tk_rng v10
  have hFF := mz_fr (K := [0, 1, 8, 34, 38]) (Fa := Fa) hfr9 hFF (by decide)
  have hRR := mz_fr (K := [2, 3, 6, 7, 42]) (Fa := Ra) hrr9 hRR (by decide)
  have hGG := mz_fr (K := [39, 40]) (Fa := Ga) hgr9 hGG (by decide)
  have hrel : rK1 (Ra 3) (R 3) := hrel.trans (rK1.refl (hrr9 3 (by decide)))
  have hf2 := (hfr9 0 (by decide)).trans hf2
  exact mz_iret (v := v10) hx hb hr rfl hlocks ⟨hIF, hIG, hIR, hFF, hRR, hGG, hrel, (by omega), (by omega)⟩ hM hS dX13_dawn_13
