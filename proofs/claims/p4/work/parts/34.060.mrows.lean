section
theorem hd_yX13_begin1 : yX13_begin1.cls ≠ "java/lang/invoke/MethodHandle" ∧ yX13_begin1.cls ≠ "java/lang/invoke/VarHandle" ∧ (parseMethodDescriptor yX13_begin1.desc).map (fun d => d.parameters.length) = some 0 := by decide +kernel
theorem dX13_beginText_0 : decode cX13_beginText 0 = .ok (.aload_n 0, 1) := by decide +kernel
theorem dX13_beginText_1 : decode cX13_beginText 1 = .ok (.iload_n 1, 1) := by decide +kernel
theorem dX13_beginText_2 : decode cX13_beginText 2 = .ok (.putfield 315, 3) := by decide +kernel
theorem dX13_beginText_5 : decode cX13_beginText 5 = .ok (.aload_n 0, 1) := by decide +kernel
theorem dX13_beginText_6 : decode cX13_beginText 6 = .ok (.invokevirtual 366, 3) := by decide +kernel
theorem dX13_beginText_9 : decode cX13_beginText 9 = .ok (.aload_n 0, 1) := by decide +kernel
theorem dX13_beginText_10 : decode cX13_beginText 10 = .ok (.iconst 0, 1) := by decide +kernel
theorem dX13_beginText_11 : decode cX13_beginText 11 = .ok (.putfield 369, 3) := by decide +kernel
theorem dX13_beginText_14 : decode cX13_beginText 14 = .ok (.aload_n 0, 1) := by decide +kernel
theorem dX13_beginText_15 : decode cX13_beginText 15 = .ok (.iconst 0, 1) := by decide +kernel
theorem dX13_beginText_16 : decode cX13_beginText 16 = .ok (.putfield 275, 3) := by decide +kernel
theorem dX13_beginText_19 : decode cX13_beginText 19 = .ok (.aload_n 0, 1) := by decide +kernel
theorem dX13_beginText_20 : decode cX13_beginText 20 = .ok (.iconst 0, 1) := by decide +kernel
theorem dX13_beginText_21 : decode cX13_beginText 21 = .ok (.putfield 306, 3) := by decide +kernel
theorem dX13_beginText_24 : decode cX13_beginText 24 = .ok (.return_, 1) := by decide +kernel
set_option maxHeartbeats 4000000 in
set_option maxRecDepth 100000 in
theorem k_X13_beginText (l : Launch) (D : va_G) (cy : Nat → ClassId) (ld ad : Nat → Nat) (am : Nat) (hD : mz_D ad am) (Fa : Nat → Int32) (Ga : Nat → Int64) (Ra : Nat → Nat → Int32) (Sa : Nat → Nat → Int64) (p1 : Int32) (gp : Int32) (hIF : mz_IF true Fa) (hIG : mz_IG Ga) (hIR : mz_IR [] true Ra) (hg_0 : Fa 13 = gp) (hp_0 : 0 ≤ p1.toInt) (hp_1 : p1.toInt ≤ 1) : Met l yX13_beginText (wl yX13_beginText cX13_beginText 2 none) ({ frames := 6, cells := 0, slots := 0, locals := 350 }) (mz_p D cy ld ad am Fa Ga Ra Sa [.ref am, .int p1]) (mz_w D cy ad am (fun F G R S => mz_IF false F ∧ mz_IG G ∧ mz_IR [] true R ∧ (∀ k : Nat, k ∉ ([14, 15, 16, 18, 19, 20, 21, 23, 26] : List Nat) → F k = Fa k) ∧ (∀ k : Nat, k ∉ ([] : List Nat) → R k = Ra k) ∧ (∀ k : Nat, k ∉ ([17] : List Nat) → G k = Ga k) ∧ 0 ≤ (-1) * (F 14).toInt + (F 15).toInt ∧ 0 ≤ gp.toInt + (-1) * (F 15).toInt ∧ (1 ≤ (F 16).toInt → 0 ≤ (-1) * (F 14).toInt + (F 15).toInt + (-1)) ∧ (27 ≤ (G 17).toInt → 1 ≤ (F 16).toInt → (F 16).toInt ≤ 1 → 0 ≤ (-1) * (F 14).toInt + (F 15).toInt + (-2)) ∧ (F 19).toInt = 0 ∧ (F 23).toInt = 0 ∧ (F 21).toInt = 0)) 0 0 (mz_W ad am) := by
  refine mz_met (y := yX13_beginText) (cc := cX13_beginText) (maxL := 2) (ret := none) (av := [.ref am, .int p1]) _ (by decide) (Nat.le_of_ble_eq_true rfl) ?_
  intro p e s m args below meth c hx hb hr hml hts htl hown hlocks hK H locs hM hS ls hl
  have hown : s.vm.findClass RX13 = some m.cls := hown
  have hl : lv_has ls 2 [(0, .ref am), (1, .int p1)] := hl
  have hr_p1 := tk_rng p1
  have hq_gp := tk_rng gp
  have hr_gp : 0 ≤ gp.toInt ∧ gp.toInt ≤ 400 := hIF.at hg_0
  refine lv_aload_n hx hb dX13_beginText_0 rfl (lv_at hl 0 rfl) ?_
  refine lv_iload_n hx hb dX13_beginText_1 rfl (lv_at hl 1 rfl) ?_
  refine mz_putI (ty := .boolean) (x := p1) hx hb htl hown hK hD hM hS 20 (Nat.le_of_ble_eq_true rfl) rfl (htl _ mw_675) (fun _ h9 => h9) rfl (tyX13_ok 20 (by decide)) (tk_nz (by omega) (by omega)) (tk_fz (by omega) (by omega)) dX13_beginText_2 (fun H locs F hM hS hf9 hj9 => ?_)
  have hIF := hIF.put20 hf9 hj9 (show 0 ≤ (p1 : Int32).toInt by omega) (show (p1 : Int32).toInt ≤ 1 by omega)
  have hFF := mz_frp (K := [14, 15, 16, 18, 19, 20, 21, 23, 26]) (Fa := Fa) hj9 (fun _ _ => rfl) (by decide)
  have hg_0 := (hj9 13 (by decide)).trans hg_0
  have hf2 := hf9
  refine lv_aload_n hx hb dX13_beginText_5 rfl (lv_at hl 0 rfl) ?_
  refine mz_Vv (As := []) (rest := []) ⟨hx, hb, hml, hown, hts⟩ hK hM hS (k_X13_begin1 l D cy ld ad am hD _ _ _ _ gp hIF hIG hIR hg_0) ⟨callB_of 0 hts (wl_in mw_680) rfl rfl rfl (htl _ mw_5) (htl _ mw_677) hd_yX13_begin1 ⟨(Nat.le_of_ble_eq_true rfl), (Nat.le_of_ble_eq_true rfl)⟩, htl _ mw_678, htl _ mw_679⟩ rfl hl.1 rfl (Nat.le_of_ble_eq_true rfl) dX13_beginText_6 ⟨(Nat.le_of_ble_eq_true rfl), (Nat.le_of_ble_eq_true rfl)⟩ (fun H locs F G R S hpo hM hS => ?_)
  obtain ⟨hIF, hIG, hIR, hfr9, hrr9, hgr9, hpo3, hpo4, hpo5, hpo6, hpo10⟩ := hpo
  have hFF := mz_fr (K := [14, 15, 16, 18, 19, 20, 21, 23, 26]) (Fa := Fa) hfr9 hFF (by decide)
  have hRR := mz_fr (K := []) (Fa := Ra) hrr9 (fun _ _ => rfl) (by decide)
  have hGG := mz_fr (K := [17]) (Fa := Ga) hgr9 (fun _ _ => rfl) (by decide)
  have hg_0 := (hfr9 13 (by decide)).trans hg_0
  have hf2 := (hfr9 20 (by decide)).trans hf2
  obtain ⟨v13, hf12⟩ : ∃ z : Int32, F 14 = z := ⟨_, rfl⟩
  have hq_v13 := tk_rng v13
  rw [hf12] at hpo3 hpo5 hpo6
  have hr_v13 : 0 ≤ v13.toInt ∧ v13.toInt ≤ 400 := hIF.at hf12
  obtain ⟨v15, hf14⟩ : ∃ z : Int32, F 15 = z := ⟨_, rfl⟩
  have hq_v15 := tk_rng v15
  rw [hf14] at hpo3 hpo4 hpo5 hpo6
  have hr_v15 : 0 ≤ v15.toInt ∧ v15.toInt ≤ 400 := hIF.at hf14
  obtain ⟨v17, hf16⟩ : ∃ z : Int32, F 16 = z := ⟨_, rfl⟩
  have hq_v17 := tk_rng v17
  rw [hf16] at hpo5 hpo6
  have hr_v17 : 0 ≤ v17.toInt ∧ v17.toInt ≤ 3 := hIF.at hf16
  obtain ⟨w19, hf18⟩ : ∃ z : Int64, G 17 = z := ⟨_, rfl⟩
  have hq_w19 := tk_rngL w19
  rw [hf18] at hpo6
  obtain ⟨v21, hf20⟩ : ∃ z : Int32, F 19 = z := ⟨_, rfl⟩
  have hq_v21 := tk_rng v21
  rw [hf20] at hpo10
  have hr_v21 : 0 ≤ v21.toInt ∧ v21.toInt ≤ 1 := hIF.at hf20
  refine lv_aload_n hx hb dX13_beginText_9 rfl (lv_at hl 0 rfl) ?_
  refine lv_iconst (v := 0) hx hb dX13_beginText_10 (by decide) ?_
  have hk_0 : (0 : Int32).toInt = 0 := by decide
  have hk_0 : (0 : Int32).toInt = 0 := by decide
  refine mz_putI (ty := .int) (x := 0) hx hb htl hown hK hD hM hS 21 (Nat.le_of_ble_eq_true rfl) rfl (htl _ mw_669) (fun _ h9 => h9) rfl (tyX13_ok 21 (by decide)) rfl rfl dX13_beginText_11 (fun H locs F hM hS hf9 hj9 => ?_)
  have hIF := hIF.put hf9 hj9 (show 0 ≤ (0 : Int32).toInt by omega) (show (0 : Int32).toInt ≤ 12 by omega) (by decide)
  have hFF := mz_frp (K := [14, 15, 16, 18, 19, 20, 21, 23, 26]) (Fa := Fa) hj9 hFF (by decide)
  have hg_0 := (hj9 13 (by decide)).trans hg_0
  have hf2 := (hj9 20 (by decide)).trans hf2
  have hf12 := (hj9 14 (by decide)).trans hf12
  have hf14 := (hj9 15 (by decide)).trans hf14
  have hf16 := (hj9 16 (by decide)).trans hf16
  have hf20 := (hj9 19 (by decide)).trans hf20
  have hf23 := hf9
  refine lv_aload_n hx hb dX13_beginText_14 rfl (lv_at hl 0 rfl) ?_
  refine lv_iconst (v := 0) hx hb dX13_beginText_15 (by decide) ?_
  have hk_0 : (0 : Int32).toInt = 0 := by decide
  have hk_0 : (0 : Int32).toInt = 0 := by decide
  refine mz_putI (ty := .int) (x := 0) hx hb htl hown hK hD hM hS 23 (Nat.le_of_ble_eq_true rfl) rfl (htl _ mw_670) (fun _ h9 => h9) rfl (tyX13_ok 23 (by decide)) rfl rfl dX13_beginText_16 (fun H locs F hM hS hf9 hj9 => ?_)
  have hIF := hIF.put hf9 hj9 (show 0 ≤ (0 : Int32).toInt by omega) (show (0 : Int32).toInt ≤ 400 by omega) (by decide)
  have hFF := mz_frp (K := [14, 15, 16, 18, 19, 20, 21, 23, 26]) (Fa := Fa) hj9 hFF (by decide)
  have hg_0 := (hj9 13 (by decide)).trans hg_0
  have hf2 := (hj9 20 (by decide)).trans hf2
  have hf12 := (hj9 14 (by decide)).trans hf12
  have hf14 := (hj9 15 (by decide)).trans hf14
  have hf16 := (hj9 16 (by decide)).trans hf16
  have hf20 := (hj9 19 (by decide)).trans hf20
  have hf23 := (hj9 21 (by decide)).trans hf23
  have hf25 := hf9
  refine lv_aload_n hx hb dX13_beginText_19 rfl (lv_at hl 0 rfl) ?_
  refine lv_iconst (v := 0) hx hb dX13_beginText_20 (by decide) ?_
  have hk_0 : (0 : Int32).toInt = 0 := by decide
  have hk_0 : (0 : Int32).toInt = 0 := by decide
  refine mz_putI (ty := .int) (x := 0) hx hb htl hown hK hD hM hS 26 (Nat.le_of_ble_eq_true rfl) rfl (htl _ mw_676) (fun _ h9 => h9) rfl (tyX13_ok 26 (by decide)) rfl rfl dX13_beginText_21 (fun H locs F hM hS hf9 hj9 => ?_)
  have hIF := hIF.put hf9 hj9 (show 0 ≤ (0 : Int32).toInt by omega) (show (0 : Int32).toInt ≤ 50 by omega) (by decide)
  have hFF := mz_frp (K := [14, 15, 16, 18, 19, 20, 21, 23, 26]) (Fa := Fa) hj9 hFF (by decide)
  have hg_0 := (hj9 13 (by decide)).trans hg_0
  have hf2 := (hj9 20 (by decide)).trans hf2
  have hf12 := (hj9 14 (by decide)).trans hf12
  have hf14 := (hj9 15 (by decide)).trans hf14
  have hf16 := (hj9 16 (by decide)).trans hf16
  have hf20 := (hj9 19 (by decide)).trans hf20
  have hf23 := (hj9 21 (by decide)).trans hf23
  have hf25 := (hj9 23 (by decide)).trans hf25
  have hf27 := hf9
  have hk_0 : (0 : Int32).toInt = 0 := by decide
  have hk_0 : (0 : Int32).toInt = 0 := by decide
  exact mz_vret hx hb hr hlocks ⟨hIF, hIG, hIR, hFF, hRR, hGG, (by rw [hf12, hf14]; omega), (by rw [hf14]; omega), (by rw [hf12, hf14, hf16]; omega), (by rw [hf12, hf14, hf16, hf18]; omega), (by rw [hf20]; omega), (by rw [hf25]; omega), (by rw [hf23]; omega)⟩ hM hS dX13_beginText_24
end
section
theorem dX13_endText_0 : decode cX13_endText 0 = .ok (.aload_n 0, 1) := by decide +kernel
theorem dX13_endText_1 : decode cX13_endText 1 = .ok (.getfield 236, 3) := by decide +kernel
theorem dX13_endText_19 : decode cX13_endText 19 = .ok (.aload_n 0, 1) := by decide +kernel
theorem dX13_endText_20 : decode cX13_endText 20 = .ok (.iconst 0, 1) := by decide +kernel
theorem dX13_endText_21 : decode cX13_endText 21 = .ok (.putfield 315, 3) := by decide +kernel
theorem dX13_endText_24 : decode cX13_endText 24 = .ok (.aload_n 0, 1) := by decide +kernel
theorem dX13_endText_25 : decode cX13_endText 25 = .ok (.iconst 0, 1) := by decide +kernel
theorem dX13_endText_26 : decode cX13_endText 26 = .ok (.putfield 224, 3) := by decide +kernel
theorem dX13_endText_29 : decode cX13_endText 29 = .ok (.return_, 1) := by decide +kernel
theorem dX13_endText_4 : decode cX13_endText 4 = .ok (.ifCond .ne 15, 3) := by decide +kernel
theorem dX13_endText_7 : decode cX13_endText 7 = .ok (.aload_n 0, 1) := by decide +kernel
theorem dX13_endText_8 : decode cX13_endText 8 = .ok (.getfield 256, 3) := by decide +kernel
theorem dX13_endText_11 : decode cX13_endText 11 = .ok (.ifCond .eq 8, 3) := by decide +kernel
theorem dX13_endText_14 : decode cX13_endText 14 = .ok (.aload_n 0, 1) := by decide +kernel
theorem dX13_endText_15 : decode cX13_endText 15 = .ok (.iconst 0, 1) := by decide +kernel
theorem dX13_endText_16 : decode cX13_endText 16 = .ok (.invokevirtual 271, 3) := by decide +kernel
end
section
theorem dX13_force_0 : decode cX13_force 0 = .ok (.aload_n 0, 1) := by decide +kernel
theorem dX13_force_1 : decode cX13_force 1 = .ok (.iconst 0, 1) := by decide +kernel
theorem dX13_force_2 : decode cX13_force 2 = .ok (.putfield 170, 3) := by decide +kernel
theorem dX13_force_5 : decode cX13_force 5 = .ok (.iload_n 1, 1) := by decide +kernel
theorem dX13_force_6 : decode cX13_force 6 = .ok (.iconst (-1), 1) := by decide +kernel
theorem dX13_force_7 : decode cX13_force 7 = .ok (.if_icmp .eq 21, 3) := by decide +kernel
theorem dX13_force_28 : decode cX13_force 28 = .ok (.aload_n 0, 1) := by decide +kernel
theorem dX13_force_29 : decode cX13_force 29 = .ok (.iconst 5, 1) := by decide +kernel
theorem dX13_force_30 : decode cX13_force 30 = .ok (.iload_n 1, 1) := by decide +kernel
theorem dX13_force_31 : decode cX13_force 31 = .ok (.invokevirtual 221, 3) := by decide +kernel
theorem dX13_force_34 : decode cX13_force 34 = .ok (.goto 9, 3) := by decide +kernel
theorem dX13_force_43 : decode cX13_force 43 = .ok (.ireturn, 1) := by decide +kernel
theorem dX13_force_10 : decode cX13_force 10 = .ok (.iload_n 1, 1) := by decide +kernel
theorem dX13_force_11 : decode cX13_force 11 = .ok (.i2l, 1) := by decide +kernel
theorem dX13_force_12 : decode cX13_force 12 = .ok (.lconst 0, 1) := by decide +kernel
theorem dX13_force_13 : decode cX13_force 13 = .ok (.aload_n 0, 1) := by decide +kernel
theorem dX13_force_14 : decode cX13_force 14 = .ok (.getfield 13, 3) := by decide +kernel
theorem dX13_force_17 : decode cX13_force 17 = .ok (.iconst 4, 1) := by decide +kernel
theorem dX13_force_18 : decode cX13_force 18 = .ok (.iaload, 1) := by decide +kernel
theorem dX13_force_19 : decode cX13_force 19 = .ok (.i2l, 1) := by decide +kernel
theorem dX13_force_20 : decode cX13_force 20 = .ok (.lconst 1, 1) := by decide +kernel
theorem dX13_force_21 : decode cX13_force 21 = .ok (.lsub, 1) := by decide +kernel
theorem dX13_force_22 : decode cX13_force 22 = .ok (.invokestatic 190, 3) := by decide +kernel
theorem dX13_force_25 : decode cX13_force 25 = .ok (.ifCond .eq 12, 3) := by decide +kernel
theorem dX13_force_37 : decode cX13_force 37 = .ok (.aload_n 0, 1) := by decide +kernel
theorem dX13_force_38 : decode cX13_force 38 = .ok (.bipush (-2), 2) := by decide +kernel
theorem dX13_force_40 : decode cX13_force 40 = .ok (.invokevirtual 183, 3) := by decide +kernel
set_option maxHeartbeats 4000000 in
set_option maxRecDepth 100000 in
theorem k_X13_force (l : Launch) (D : va_G) (cy : Nat → ClassId) (ld ad : Nat → Nat) (am : Nat) (hD : mz_D ad am) (Fa : Nat → Int32) (Ga : Nat → Int64) (Ra : Nat → Nat → Int32) (Sa : Nat → Nat → Int64) (p1 : Int32) (hIF : mz_IF true Fa) (hIG : mz_IG Ga) (hIR : mz_IR [] true Ra) : Met l yX13_force (wl yX13_force cX13_force 2 (some .int)) ({ frames := 4, cells := 0, slots := 0, locals := 210 }) (mz_p D cy ld ad am Fa Ga Ra Sa [.ref am, .int p1]) (mz_i D cy ad am (fun r F G R S => mz_IF true F ∧ mz_IG G ∧ mz_IR [] true R ∧ (∀ k : Nat, k ∉ ([0, 1] : List Nat) → F k = Fa k) ∧ (∀ k : Nat, k ∉ ([2, 3] : List Nat) → R k = Ra k) ∧ (∀ k : Nat, k ∉ ([] : List Nat) → G k = Ga k) ∧ rK3 (Ra 3) (R 3))) 0 0 (mz_W ad am) := by
  refine mz_met (y := yX13_force) (cc := cX13_force) (maxL := 2) (ret := (some .int)) (av := [.ref am, .int p1]) _ (by decide) (Nat.le_of_ble_eq_true rfl) ?_
  intro p e s m args below meth c hx hb hr hml hts htl hown hlocks hK H locs hM hS ls hl
  have hown : s.vm.findClass RX13 = some m.cls := hown
  have hl : lv_has ls 2 [(0, .ref am), (1, .int p1)] := hl
  have hr_p1 := tk_rng p1
  refine lv_aload_n hx hb dX13_force_0 rfl (lv_at hl 0 rfl) ?_
  refine lv_iconst (v := 0) hx hb dX13_force_1 (by decide) ?_
  have hk_0 : (0 : Int32).toInt = 0 := by decide
  refine mz_putI (ty := .int) (x := 0) hx hb htl hown hK hD hM hS 0 (Nat.le_of_ble_eq_true rfl) rfl (htl _ mw_286) (fun _ h9 => h9) rfl (tyX13_ok 0 (by decide)) rfl rfl dX13_force_2 (fun H locs F hM hS hf9 hj9 => ?_)
  have hIF := hIF.put hf9 hj9 (tk_rng _).1 (tk_rng _).2 (by decide)
  have hFF := mz_frp (K := [0, 1]) (Fa := Fa) hj9 (fun _ _ => rfl) (by decide)
  have hf2 := hf9
  refine lv_iload_n hx hb dX13_force_5 rfl (lv_at hl 1 rfl) ?_
  refine lv_iconst (v := (-1)) hx hb dX13_force_6 (by decide) ?_
  refine lv_icmp_eq (tgt := 28) hx hb dX13_force_7 (by decide) (fun c9 => ?_) (fun c9 => ?_)
  · have hc3 : p1.toInt = (-1) := (fi_eq rfl (show ((-1) : Int32).toInt = (-1) by decide)).mp c9
    refine lv_aload_n hx hb dX13_force_28 rfl (lv_at hl 0 rfl) ?_
    refine lv_iconst (v := 5) hx hb dX13_force_29 (by decide) ?_
    refine lv_iload_n hx hb dX13_force_30 rfl (lv_at hl 1 rfl) ?_
    have hk_5 : (5 : Int32).toInt = 5 := by decide
    refine mz_Vi (As := [.int 5, .int p1]) (rest := []) ⟨hx, hb, hml, hown, hts⟩ hK hM hS (k_X13_change l D cy ld ad am hD _ _ _ _ 5 p1 hIF hIG hIR (by omega) (by omega) (by omega)) ⟨callB_of 2 hts (wl_in mw_399) rfl rfl rfl (htl _ mw_5) (htl _ mw_396) hd_yX13_change ⟨(Nat.le_of_ble_eq_true rfl), (Nat.le_of_ble_eq_true rfl)⟩, htl _ mw_397, htl _ mw_398⟩ rfl hl.1 rfl (Nat.le_of_ble_eq_true rfl) dX13_force_31 ⟨(Nat.le_of_ble_eq_true rfl), (Nat.le_of_ble_eq_true rfl)⟩ (fun v4 H locs F G R S hpo hM hS => ?_)
    obtain ⟨hIF, hIG, hIR, hfr9, hrr9, hgr9, hrel9⟩ := hpo
    have hq_v4 := tk_rng v4
    have hFF := mz_fr (K := [0, 1]) (Fa := Fa) hfr9 hFF (by decide)
    have hRR := mz_fr (K := [2, 3]) (Fa := Ra) hrr9 (fun _ _ => rfl) (by decide)
    have hGG := mz_fr (K := []) (Fa := Ga) hgr9 (fun _ _ => rfl) (by decide)
    have hrel := (rK3.refl rfl).trans hrel9
    have hf2 := (hfr9 0 (by decide)).trans hf2
    refine lv_goto (tgt := 43) hx hb dX13_force_34 (by decide) ?_
    exact mz_iret (v := v4) hx hb hr rfl hlocks ⟨hIF, hIG, hIR, hFF, hRR, hGG, hrel⟩ hM hS dX13_force_43
  · have hc3 : ¬ (p1.toInt = (-1)) := fun h9 => c9 ((fi_eq rfl (show ((-1) : Int32).toInt = (-1) by decide)).mpr h9)
    refine lv_iload_n hx hb dX13_force_10 rfl (lv_at hl 1 rfl) ?_
    obtain ⟨w6, e_w6, h_w6⟩ : ∃ z : Int64, p1.toInt64 = z ∧ z.toInt = p1.toInt := ⟨_, rfl, fl_w _⟩
    refine lv_i2l (v := w6) hx hb dX13_force_11 e_w6 ?_
    refine lv_lconst (v := 0) hx hb dX13_force_12 (by decide) ?_
    refine lv_aload_n hx hb dX13_force_13 rfl (lv_at hl 0 rfl) ?_
    refine mz_getR hx hb htl hown hK hM 3 (Nat.le_of_ble_eq_true rfl) (Nat.le_of_ble_eq_true rfl) (htl _ mw_188) (fun _ h9 => h9) dX13_force_14 ?_
    refine lv_iconst (v := 4) hx hb dX13_force_17 (by decide) ?_
    refine mz_iald hx hb hK hM 3 (Nat.le_of_ble_eq_true rfl) rfl (nn := 5560) rfl (I := 4) (by decide) (by decide) (by decide) dX13_force_18 (fun v11 hf10 => ?_)
    have hf10 : Ra 3 4 = v11 := hf10
    have hq_v11 := tk_rng v11
    have hr_v11 : 0 ≤ v11.toInt ∧ v11.toInt ≤ 6 := by have h9 := mz_r3c 4 (hIR.at 3) hf10 (by decide); unfold mE at h9; omega
    obtain ⟨w12, e_w12, h_w12⟩ : ∃ z : Int64, v11.toInt64 = z ∧ z.toInt = v11.toInt := ⟨_, rfl, fl_w _⟩
    refine lv_i2l (v := w12) hx hb dX13_force_19 e_w12 ?_
    refine lv_lconst (v := 1) hx hb dX13_force_20 (by decide) ?_
    refine lv_lsub hx hb dX13_force_21 ?_
    refine tk_lsub rfl (show (1 : Int64).toInt = 1 by decide) (by omega) (by omega) (fun w13 h_w13 => ?_)
    have hk_0 : (0 : Int64).toInt = 0 := by decide
    refine mz_Sj (As := [.long w6, .long 0, .long w13]) (rest := []) ⟨hx, hb, hml, hown, hts⟩ hK hM hS (k_X13_in l D cy ld ad am hD _ _ _ _ w6 0 w13) ⟨callB_of 3 hts (wl_in mw_292) rfl rfl rfl (htl _ mw_5) (htl _ mw_290) hd_yX13_in ⟨(Nat.le_of_ble_eq_true rfl), (Nat.le_of_ble_eq_true rfl)⟩, htl _ mw_291⟩ rfl hl.1 rfl (Nat.le_of_ble_eq_true rfl) dX13_force_22 ⟨(Nat.le_of_ble_eq_true rfl), (Nat.le_of_ble_eq_true rfl)⟩ (fun v14 H locs hpo hM hS => ?_)
    obtain ⟨hpo15, hpo16, hpo17, hpo18, hpo19, hpo20⟩ := hpo
    have hq_v14 := tk_rng v14
    refine lv_if_eq (tgt := 37) hx hb dX13_force_25 (by decide) (fun c9 => ?_) (fun c9 => ?_)
    · have hc22 : v14.toInt = 0 := (fi_eq rfl (show (0 : Int32).toInt = 0 by decide)).mp c9
      refine lv_aload_n hx hb dX13_force_37 rfl (lv_at hl 0 rfl) ?_
      refine lv_bipush (v := (-2)) hx hb dX13_force_38 (by decide) ?_
      have hk_m2 : ((-2) : Int32).toInt = (-2) := by decide
      refine mz_Vi (As := [.int (-2)]) (rest := []) ⟨hx, hb, hml, hown, hts⟩ hK hM hS (k_X13_tell l D cy ld ad am hD _ _ _ _ (-2) hIF hIG hIR (by omega) (by omega)) ⟨callB_of 1 hts (wl_in mw_296) rfl rfl rfl (htl _ mw_5) (htl _ mw_293) hd_yX13_tell ⟨(Nat.le_of_ble_eq_true rfl), (Nat.le_of_ble_eq_true rfl)⟩, htl _ mw_294, htl _ mw_295⟩ rfl hl.1 rfl (Nat.le_of_ble_eq_true rfl) dX13_force_40 ⟨(Nat.le_of_ble_eq_true rfl), (Nat.le_of_ble_eq_true rfl)⟩ (fun v23 H locs F G R S hpo hM hS => ?_)
      obtain ⟨hIF, hIG, hIR, hfr9, hrr9, hgr9, hpo24⟩ := hpo
      have hq_v23 := tk_rng v23
      have hFF := mz_fr (K := [0, 1]) (Fa := Fa) hfr9 hFF (by decide)
      have hRR := mz_fr (K := [2, 3]) (Fa := Ra) hrr9 (fun _ _ => rfl) (by decide)
      have hGG := mz_fr (K := []) (Fa := Ga) hgr9 (fun _ _ => rfl) (by decide)
      have hrel : rK3 (Ra 3) (R 3) := (rK3.refl rfl).trans (rK3.refl (hrr9 3 (by decide)))
      have hf2 := (hfr9 0 (by decide)).trans hf2
      have hf10 : R 3 4 = _ := (congrFun (hrr9 3 (by decide)) 4).trans hf10
      exact mz_iret (v := v23) hx hb hr rfl hlocks ⟨hIF, hIG, hIR, hFF, hRR, hGG, hrel⟩ hM hS dX13_force_43
    · have hc22 : ¬ (v14.toInt = 0) := fun h9 => c9 ((fi_eq rfl (show (0 : Int32).toInt = 0 by decide)).mpr h9)
      have hwk_26 : 0 ≤ w6.toInt ∧ 0 ≤ w13.toInt + (-1) * w6.toInt := by omega
      refine lv_aload_n hx hb dX13_force_28 rfl (lv_at hl 0 rfl) ?_
      refine lv_iconst (v := 5) hx hb dX13_force_29 (by decide) ?_
      refine lv_iload_n hx hb dX13_force_30 rfl (lv_at hl 1 rfl) ?_
      have hk_5 : (5 : Int32).toInt = 5 := by decide
      refine mz_Vi (As := [.int 5, .int p1]) (rest := []) ⟨hx, hb, hml, hown, hts⟩ hK hM hS (k_X13_change l D cy ld ad am hD _ _ _ _ 5 p1 hIF hIG hIR (by omega) (by omega) (by omega)) ⟨callB_of 2 hts (wl_in mw_399) rfl rfl rfl (htl _ mw_5) (htl _ mw_396) hd_yX13_change ⟨(Nat.le_of_ble_eq_true rfl), (Nat.le_of_ble_eq_true rfl)⟩, htl _ mw_397, htl _ mw_398⟩ rfl hl.1 rfl (Nat.le_of_ble_eq_true rfl) dX13_force_31 ⟨(Nat.le_of_ble_eq_true rfl), (Nat.le_of_ble_eq_true rfl)⟩ (fun v27 H locs F G R S hpo hM hS => ?_)
      obtain ⟨hIF, hIG, hIR, hfr9, hrr9, hgr9, hrel9⟩ := hpo
      have hq_v27 := tk_rng v27
      have hFF := mz_fr (K := [0, 1]) (Fa := Fa) hfr9 hFF (by decide)
      have hRR := mz_fr (K := [2, 3]) (Fa := Ra) hrr9 (fun _ _ => rfl) (by decide)
      have hGG := mz_fr (K := []) (Fa := Ga) hgr9 (fun _ _ => rfl) (by decide)
      have hrel := (rK3.refl rfl).trans hrel9
      have hf2 := (hfr9 0 (by decide)).trans hf2
      refine lv_goto (tgt := 43) hx hb dX13_force_34 (by decide) ?_
      exact mz_iret (v := v27) hx hb hr rfl hlocks ⟨hIF, hIG, hIR, hFF, hRR, hGG, hrel⟩ hM hS dX13_force_43
end
section
theorem dX13_reckon_0 : decode cX13_reckon 0 = .ok (.iload_n 1, 1) := by decide +kernel
theorem dX13_reckon_1 : decode cX13_reckon 1 = .ok (.tableswitch 148 20 26 #[43, 48, 53, 58, 90, 122, 135], 43) := by decide +kernel
theorem dX13_reckon_44 : decode cX13_reckon 44 = .ok (.lload_n 2, 1) := by decide +kernel
theorem dX13_reckon_45 : decode cX13_reckon 45 = .ok (.lload 4, 2) := by decide +kernel
theorem dX13_reckon_47 : decode cX13_reckon 47 = .ok (.ladd, 1) := by decide +kernel
theorem dX13_reckon_48 : decode cX13_reckon 48 = .ok (.lreturn, 1) := by decide +kernel
theorem dX13_reckon_49 : decode cX13_reckon 49 = .ok (.lload_n 2, 1) := by decide +kernel
theorem dX13_reckon_50 : decode cX13_reckon 50 = .ok (.lload 4, 2) := by decide +kernel
theorem dX13_reckon_52 : decode cX13_reckon 52 = .ok (.lsub, 1) := by decide +kernel
theorem dX13_reckon_53 : decode cX13_reckon 53 = .ok (.lreturn, 1) := by decide +kernel
theorem dX13_reckon_54 : decode cX13_reckon 54 = .ok (.lload_n 2, 1) := by decide +kernel
theorem dX13_reckon_55 : decode cX13_reckon 55 = .ok (.lload 4, 2) := by decide +kernel
theorem dX13_reckon_57 : decode cX13_reckon 57 = .ok (.lmul, 1) := by decide +kernel
theorem dX13_reckon_58 : decode cX13_reckon 58 = .ok (.lreturn, 1) := by decide +kernel
theorem dX13_reckon_59 : decode cX13_reckon 59 = .ok (.aload_n 0, 1) := by decide +kernel
theorem dX13_reckon_60 : decode cX13_reckon 60 = .ok (.lload 4, 2) := by decide +kernel
theorem dX13_reckon_62 : decode cX13_reckon 62 = .ok (.lconst 0, 1) := by decide +kernel
theorem dX13_reckon_63 : decode cX13_reckon 63 = .ok (.lcmp, 1) := by decide +kernel
theorem dX13_reckon_64 : decode cX13_reckon 64 = .ok (.ifCond .ne 7, 3) := by decide +kernel
theorem dX13_reckon_71 : decode cX13_reckon 71 = .ok (.iconst 0, 1) := by decide +kernel
theorem dX13_reckon_72 : decode cX13_reckon 72 = .ok (.putfield 386, 3) := by decide +kernel
theorem dX13_reckon_75 : decode cX13_reckon 75 = .ok (.aload_n 0, 1) := by decide +kernel
theorem dX13_reckon_76 : decode cX13_reckon 76 = .ok (.getfield 386, 3) := by decide +kernel
theorem dX13_reckon_79 : decode cX13_reckon 79 = .ok (.ifCond .eq 7, 3) := by decide +kernel
theorem dX13_reckon_86 : decode cX13_reckon 86 = .ok (.lload_n 2, 1) := by decide +kernel
theorem dX13_reckon_87 : decode cX13_reckon 87 = .ok (.lload 4, 2) := by decide +kernel
theorem dX13_reckon_89 : decode cX13_reckon 89 = .ok (.ldiv, 1) := by decide +kernel
theorem dX13_reckon_90 : decode cX13_reckon 90 = .ok (.lreturn, 1) := by decide +kernel
theorem dX13_reckon_67 : decode cX13_reckon 67 = .ok (.iconst 1, 1) := by decide +kernel
theorem dX13_reckon_68 : decode cX13_reckon 68 = .ok (.goto 4, 3) := by decide +kernel
theorem dX13_reckon_82 : decode cX13_reckon 82 = .ok (.lconst 0, 1) := by decide +kernel
theorem dX13_reckon_83 : decode cX13_reckon 83 = .ok (.goto 7, 3) := by decide +kernel
theorem dX13_reckon_91 : decode cX13_reckon 91 = .ok (.aload_n 0, 1) := by decide +kernel
theorem dX13_reckon_92 : decode cX13_reckon 92 = .ok (.lload 4, 2) := by decide +kernel
theorem dX13_reckon_94 : decode cX13_reckon 94 = .ok (.lconst 0, 1) := by decide +kernel
theorem dX13_reckon_95 : decode cX13_reckon 95 = .ok (.lcmp, 1) := by decide +kernel
theorem dX13_reckon_96 : decode cX13_reckon 96 = .ok (.ifCond .ne 7, 3) := by decide +kernel
theorem dX13_reckon_103 : decode cX13_reckon 103 = .ok (.iconst 0, 1) := by decide +kernel
theorem dX13_reckon_104 : decode cX13_reckon 104 = .ok (.putfield 386, 3) := by decide +kernel
theorem dX13_reckon_107 : decode cX13_reckon 107 = .ok (.aload_n 0, 1) := by decide +kernel
theorem dX13_reckon_108 : decode cX13_reckon 108 = .ok (.getfield 386, 3) := by decide +kernel
theorem dX13_reckon_111 : decode cX13_reckon 111 = .ok (.ifCond .eq 7, 3) := by decide +kernel
theorem dX13_reckon_118 : decode cX13_reckon 118 = .ok (.lload_n 2, 1) := by decide +kernel
theorem dX13_reckon_119 : decode cX13_reckon 119 = .ok (.lload 4, 2) := by decide +kernel
theorem dX13_reckon_121 : decode cX13_reckon 121 = .ok (.lrem, 1) := by decide +kernel
theorem dX13_reckon_122 : decode cX13_reckon 122 = .ok (.lreturn, 1) := by decide +kernel
theorem dX13_reckon_99 : decode cX13_reckon 99 = .ok (.iconst 1, 1) := by decide +kernel
theorem dX13_reckon_100 : decode cX13_reckon 100 = .ok (.goto 4, 3) := by decide +kernel
theorem dX13_reckon_114 : decode cX13_reckon 114 = .ok (.lconst 0, 1) := by decide +kernel
theorem dX13_reckon_115 : decode cX13_reckon 115 = .ok (.goto 7, 3) := by decide +kernel
theorem dX13_reckon_123 : decode cX13_reckon 123 = .ok (.lload_n 2, 1) := by decide +kernel
theorem dX13_reckon_124 : decode cX13_reckon 124 = .ok (.lload 4, 2) := by decide +kernel
theorem dX13_reckon_126 : decode cX13_reckon 126 = .ok (.lcmp, 1) := by decide +kernel
theorem dX13_reckon_127 : decode cX13_reckon 127 = .ok (.ifCond .ge 7, 3) := by decide +kernel
theorem dX13_reckon_134 : decode cX13_reckon 134 = .ok (.lconst 0, 1) := by decide +kernel
theorem dX13_reckon_135 : decode cX13_reckon 135 = .ok (.lreturn, 1) := by decide +kernel
theorem dX13_reckon_130 : decode cX13_reckon 130 = .ok (.lconst 1, 1) := by decide +kernel
theorem dX13_reckon_131 : decode cX13_reckon 131 = .ok (.goto 4, 3) := by decide +kernel
theorem dX13_reckon_136 : decode cX13_reckon 136 = .ok (.lload_n 2, 1) := by decide +kernel
theorem dX13_reckon_137 : decode cX13_reckon 137 = .ok (.lload 4, 2) := by decide +kernel
theorem dX13_reckon_139 : decode cX13_reckon 139 = .ok (.lcmp, 1) := by decide +kernel
theorem dX13_reckon_140 : decode cX13_reckon 140 = .ok (.ifCond .le 7, 3) := by decide +kernel
theorem dX13_reckon_147 : decode cX13_reckon 147 = .ok (.lconst 0, 1) := by decide +kernel
theorem dX13_reckon_148 : decode cX13_reckon 148 = .ok (.lreturn, 1) := by decide +kernel
theorem dX13_reckon_143 : decode cX13_reckon 143 = .ok (.lconst 1, 1) := by decide +kernel
theorem dX13_reckon_144 : decode cX13_reckon 144 = .ok (.goto 4, 3) := by decide +kernel
theorem dX13_reckon_149 : decode cX13_reckon 149 = .ok (.lload_n 2, 1) := by decide +kernel
theorem dX13_reckon_150 : decode cX13_reckon 150 = .ok (.lload 4, 2) := by decide +kernel
theorem dX13_reckon_152 : decode cX13_reckon 152 = .ok (.lcmp, 1) := by decide +kernel
theorem dX13_reckon_153 : decode cX13_reckon 153 = .ok (.ifCond .ne 7, 3) := by decide +kernel
theorem dX13_reckon_160 : decode cX13_reckon 160 = .ok (.lconst 0, 1) := by decide +kernel
theorem dX13_reckon_161 : decode cX13_reckon 161 = .ok (.lreturn, 1) := by decide +kernel
theorem dX13_reckon_156 : decode cX13_reckon 156 = .ok (.lconst 1, 1) := by decide +kernel
theorem dX13_reckon_157 : decode cX13_reckon 157 = .ok (.goto 4, 3) := by decide +kernel
set_option maxHeartbeats 4000000 in
set_option maxRecDepth 100000 in
theorem k_X13_reckon (l : Launch) (D : va_G) (cy : Nat → ClassId) (ld ad : Nat → Nat) (am : Nat) (hD : mz_D ad am) (Fa : Nat → Int32) (Ga : Nat → Int64) (Ra : Nat → Nat → Int32) (Sa : Nat → Nat → Int64) (p1 : Int32) (p2 : Int64) (p3 : Int64) (hIF : mz_IF false Fa) (hIG : mz_IG Ga) (hIR : mz_IR [] true Ra) : Met l yX13_reckon (wl yX13_reckon cX13_reckon 6 (some .long)) ({ frames := 3, cells := 0, slots := 0, locals := 140 }) (mz_p D cy ld ad am Fa Ga Ra Sa [.ref am, .int p1, .long p2, .long p3]) (mz_l D cy ad am (fun r F G R S => mz_IF false F ∧ mz_IG G ∧ mz_IR [] true R ∧ (∀ k : Nat, k ∉ ([38] : List Nat) → F k = Fa k) ∧ (∀ k : Nat, k ∉ ([] : List Nat) → R k = Ra k) ∧ (∀ k : Nat, k ∉ ([] : List Nat) → G k = Ga k))) 0 0 (mz_W ad am) := by
  refine mz_met (y := yX13_reckon) (cc := cX13_reckon) (maxL := 6) (ret := (some .long)) (av := [.ref am, .int p1, .long p2, .long p3]) _ (by decide) (Nat.le_of_ble_eq_true rfl) ?_
  intro p e s m args below meth c hx hb hr hml hts htl hown hlocks hK H locs hM hS ls hl
  have hown : s.vm.findClass RX13 = some m.cls := hown
  have hl : lv_has ls 6 [(0, .ref am), (1, .int p1), (2, .long p2), (4, .long p3)] := hl
  have hr_p1 := tk_rng p1
  refine lv_iload_n hx hb dX13_reckon_0 rfl (lv_at hl 1 rfl) ?_
  rcases (show p1.toInt = 20 ∨ p1.toInt = 21 ∨ p1.toInt = 22 ∨ p1.toInt = 23 ∨ p1.toInt = 24 ∨ p1.toInt = 25 ∨ p1.toInt = 26 ∨ p1.toInt < 20 ∨ 26 < p1.toInt by omega) with hsw | hsw | hsw | hsw | hsw | hsw | hsw | hsw | hsw
  · refine lv_tableIn (off := 43) (tgt := 44) hx hb dX13_reckon_1 (by omega) (by omega) (by rw [hsw]; rfl) (by decide) ?_
    refine lv_lload_n hx hb dX13_reckon_44 rfl (lv_at hl 2 rfl) ?_
    refine lv_lload hx hb dX13_reckon_45 (lv_at hl 3 rfl) ?_
    refine lv_ladd hx hb dX13_reckon_47 ?_
    refine tk_anyl (fun w1 => ?_)
    exact mz_lret (v := w1) hx hb hr hlocks ⟨hIF, hIG, hIR, (fun _ _ => rfl), (fun _ _ => rfl), (fun _ _ => rfl)⟩ hM hS dX13_reckon_48
  · refine lv_tableIn (off := 48) (tgt := 49) hx hb dX13_reckon_1 (by omega) (by omega) (by rw [hsw]; rfl) (by decide) ?_
    refine lv_lload_n hx hb dX13_reckon_49 rfl (lv_at hl 2 rfl) ?_
    refine lv_lload hx hb dX13_reckon_50 (lv_at hl 3 rfl) ?_
    refine lv_lsub hx hb dX13_reckon_52 ?_
    refine tk_anyl (fun w2 => ?_)
    exact mz_lret (v := w2) hx hb hr hlocks ⟨hIF, hIG, hIR, (fun _ _ => rfl), (fun _ _ => rfl), (fun _ _ => rfl)⟩ hM hS dX13_reckon_53
  · refine lv_tableIn (off := 53) (tgt := 54) hx hb dX13_reckon_1 (by omega) (by omega) (by rw [hsw]; rfl) (by decide) ?_
    refine lv_lload_n hx hb dX13_reckon_54 rfl (lv_at hl 2 rfl) ?_
    refine lv_lload hx hb dX13_reckon_55 (lv_at hl 3 rfl) ?_
    refine lv_lmul hx hb dX13_reckon_57 ?_
    refine tk_anyl (fun w3 => ?_)
    exact mz_lret (v := w3) hx hb hr hlocks ⟨hIF, hIG, hIR, (fun _ _ => rfl), (fun _ _ => rfl), (fun _ _ => rfl)⟩ hM hS dX13_reckon_58
  · refine lv_tableIn (off := 58) (tgt := 59) hx hb dX13_reckon_1 (by omega) (by omega) (by rw [hsw]; rfl) (by decide) ?_
    refine lv_aload_n hx hb dX13_reckon_59 rfl (lv_at hl 0 rfl) ?_
    refine lv_lload hx hb dX13_reckon_60 (lv_at hl 3 rfl) ?_
    refine lv_lconst (v := 0) hx hb dX13_reckon_62 (by decide) ?_
    refine W.lcmp hx hb dX13_reckon_63 ?_
    refine lv_if_ne (tgt := 71) hx hb dX13_reckon_64 (by decide) (fun c9 => ?_) (fun c9 => ?_)
    · have hc4 : ¬ (p3.toInt = 0) := fun h9 => c9 (((lg_cmp_eq _ _).trans (fl_eq rfl (show (0 : Int64).toInt = 0 by decide))).mpr h9)
      refine lv_iconst (v := 0) hx hb dX13_reckon_71 (by decide) ?_
      have hk_0 : (0 : Int32).toInt = 0 := by decide
      have hk_0 : (0 : Int32).toInt = 0 := by decide
      refine mz_putI (ty := .boolean) (x := 0) hx hb htl hown hK hD hM hS 38 (Nat.le_of_ble_eq_true rfl) rfl (htl _ mw_1051) (fun _ h9 => h9) rfl (tyX13_ok 38 (by decide)) rfl rfl dX13_reckon_72 (fun H locs F hM hS hf9 hj9 => ?_)
      have hIF := hIF.put hf9 hj9 (show 0 ≤ (0 : Int32).toInt by omega) (show (0 : Int32).toInt ≤ 1 by omega) (by decide)
      have hFF := mz_frp (K := [38]) (Fa := Fa) hj9 (fun _ _ => rfl) (by decide)
      have hf6 := hf9
      refine lv_aload_n hx hb dX13_reckon_75 rfl (lv_at hl 0 rfl) ?_
      refine mz_getI hx hb htl hown hK hM 38 (Nat.le_of_ble_eq_true rfl) rfl (htl _ mw_1051) (fun _ h9 => h9) dX13_reckon_76 (fun v9 e9 => ?_)
      refine fx_ti (v := 0) (e9.symm.trans hf6) ?_
      refine lv_if_eq (tgt := 86) hx hb dX13_reckon_79 (by decide) (fun _ => ?_) (fun c9 => absurd (by decide) c9)
      refine lv_lload_n hx hb dX13_reckon_86 rfl (lv_at hl 2 rfl) ?_
      refine lv_lload hx hb dX13_reckon_87 (lv_at hl 3 rfl) ?_
      refine lv_ldiv hx hb dX13_reckon_89 (fun h9 => absurd ((fl_eq rfl (show (0 : Int64).toInt = 0 by decide)).mp h9) (by omega)) ?_
      refine tk_anyl (fun w10 => ?_)
      exact mz_lret (v := w10) hx hb hr hlocks ⟨hIF, hIG, hIR, hFF, (fun _ _ => rfl), (fun _ _ => rfl)⟩ hM hS dX13_reckon_90
    · have hc4 : p3.toInt = 0 := ((lg_cmp_eq _ _).trans (fl_eq rfl (show (0 : Int64).toInt = 0 by decide))).mp c9
      refine lv_iconst (v := 1) hx hb dX13_reckon_67 (by decide) ?_
      refine lv_goto (tgt := 72) hx hb dX13_reckon_68 (by decide) ?_
      have hk_1 : (1 : Int32).toInt = 1 := by decide
      have hk_1 : (1 : Int32).toInt = 1 := by decide
      refine mz_putI (ty := .boolean) (x := 1) hx hb htl hown hK hD hM hS 38 (Nat.le_of_ble_eq_true rfl) rfl (htl _ mw_1051) (fun _ h9 => h9) rfl (tyX13_ok 38 (by decide)) rfl rfl dX13_reckon_72 (fun H locs F hM hS hf9 hj9 => ?_)
      have hIF := hIF.put hf9 hj9 (show 0 ≤ (1 : Int32).toInt by omega) (show (1 : Int32).toInt ≤ 1 by omega) (by decide)
      have hFF := mz_frp (K := [38]) (Fa := Fa) hj9 (fun _ _ => rfl) (by decide)
      have hf12 := hf9
      refine lv_aload_n hx hb dX13_reckon_75 rfl (lv_at hl 0 rfl) ?_
      refine mz_getI hx hb htl hown hK hM 38 (Nat.le_of_ble_eq_true rfl) rfl (htl _ mw_1051) (fun _ h9 => h9) dX13_reckon_76 (fun v9 e9 => ?_)
      refine fx_ti (v := 1) (e9.symm.trans hf12) ?_
      refine lv_if_eq (tgt := 86) hx hb dX13_reckon_79 (by decide) (fun c9 => absurd c9 (by decide)) (fun _ => ?_)
      refine lv_lconst (v := 0) hx hb dX13_reckon_82 (by decide) ?_
      refine lv_goto (tgt := 90) hx hb dX13_reckon_83 (by decide) ?_
      have hk_0 : (0 : Int64).toInt = 0 := by decide
      exact mz_lret (v := 0) hx hb hr hlocks ⟨hIF, hIG, hIR, hFF, (fun _ _ => rfl), (fun _ _ => rfl)⟩ hM hS dX13_reckon_90
  · refine lv_tableIn (off := 90) (tgt := 91) hx hb dX13_reckon_1 (by omega) (by omega) (by rw [hsw]; rfl) (by decide) ?_
    refine lv_aload_n hx hb dX13_reckon_91 rfl (lv_at hl 0 rfl) ?_
    refine lv_lload hx hb dX13_reckon_92 (lv_at hl 3 rfl) ?_
    refine lv_lconst (v := 0) hx hb dX13_reckon_94 (by decide) ?_
    refine W.lcmp hx hb dX13_reckon_95 ?_
    refine lv_if_ne (tgt := 103) hx hb dX13_reckon_96 (by decide) (fun c9 => ?_) (fun c9 => ?_)
    · have hc13 : ¬ (p3.toInt = 0) := fun h9 => c9 (((lg_cmp_eq _ _).trans (fl_eq rfl (show (0 : Int64).toInt = 0 by decide))).mpr h9)
      refine lv_iconst (v := 0) hx hb dX13_reckon_103 (by decide) ?_
      have hk_0 : (0 : Int32).toInt = 0 := by decide
      have hk_0 : (0 : Int32).toInt = 0 := by decide
      refine mz_putI (ty := .boolean) (x := 0) hx hb htl hown hK hD hM hS 38 (Nat.le_of_ble_eq_true rfl) rfl (htl _ mw_1051) (fun _ h9 => h9) rfl (tyX13_ok 38 (by decide)) rfl rfl dX13_reckon_104 (fun H locs F hM hS hf9 hj9 => ?_)
      have hIF := hIF.put hf9 hj9 (show 0 ≤ (0 : Int32).toInt by omega) (show (0 : Int32).toInt ≤ 1 by omega) (by decide)
      have hFF := mz_frp (K := [38]) (Fa := Fa) hj9 (fun _ _ => rfl) (by decide)
      have hf15 := hf9
      refine lv_aload_n hx hb dX13_reckon_107 rfl (lv_at hl 0 rfl) ?_
      refine mz_getI hx hb htl hown hK hM 38 (Nat.le_of_ble_eq_true rfl) rfl (htl _ mw_1051) (fun _ h9 => h9) dX13_reckon_108 (fun v9 e9 => ?_)
      refine fx_ti (v := 0) (e9.symm.trans hf15) ?_
      refine lv_if_eq (tgt := 118) hx hb dX13_reckon_111 (by decide) (fun _ => ?_) (fun c9 => absurd (by decide) c9)
      refine lv_lload_n hx hb dX13_reckon_118 rfl (lv_at hl 2 rfl) ?_
      refine lv_lload hx hb dX13_reckon_119 (lv_at hl 3 rfl) ?_
      refine lv_lrem hx hb dX13_reckon_121 (fun h9 => absurd ((fl_eq rfl (show (0 : Int64).toInt = 0 by decide)).mp h9) (by omega)) ?_
      refine tk_anyl (fun w16 => ?_)
      exact mz_lret (v := w16) hx hb hr hlocks ⟨hIF, hIG, hIR, hFF, (fun _ _ => rfl), (fun _ _ => rfl)⟩ hM hS dX13_reckon_122
    · have hc13 : p3.toInt = 0 := ((lg_cmp_eq _ _).trans (fl_eq rfl (show (0 : Int64).toInt = 0 by decide))).mp c9
      refine lv_iconst (v := 1) hx hb dX13_reckon_99 (by decide) ?_
      refine lv_goto (tgt := 104) hx hb dX13_reckon_100 (by decide) ?_
      have hk_1 : (1 : Int32).toInt = 1 := by decide
      have hk_1 : (1 : Int32).toInt = 1 := by decide
      refine mz_putI (ty := .boolean) (x := 1) hx hb htl hown hK hD hM hS 38 (Nat.le_of_ble_eq_true rfl) rfl (htl _ mw_1051) (fun _ h9 => h9) rfl (tyX13_ok 38 (by decide)) rfl rfl dX13_reckon_104 (fun H locs F hM hS hf9 hj9 => ?_)
      have hIF := hIF.put hf9 hj9 (show 0 ≤ (1 : Int32).toInt by omega) (show (1 : Int32).toInt ≤ 1 by omega) (by decide)
      have hFF := mz_frp (K := [38]) (Fa := Fa) hj9 (fun _ _ => rfl) (by decide)
      have hf18 := hf9
      refine lv_aload_n hx hb dX13_reckon_107 rfl (lv_at hl 0 rfl) ?_
      refine mz_getI hx hb htl hown hK hM 38 (Nat.le_of_ble_eq_true rfl) rfl (htl _ mw_1051) (fun _ h9 => h9) dX13_reckon_108 (fun v9 e9 => ?_)
      refine fx_ti (v := 1) (e9.symm.trans hf18) ?_
      refine lv_if_eq (tgt := 118) hx hb dX13_reckon_111 (by decide) (fun c9 => absurd c9 (by decide)) (fun _ => ?_)
      refine lv_lconst (v := 0) hx hb dX13_reckon_114 (by decide) ?_
      refine lv_goto (tgt := 122) hx hb dX13_reckon_115 (by decide) ?_
      have hk_0 : (0 : Int64).toInt = 0 := by decide
      exact mz_lret (v := 0) hx hb hr hlocks ⟨hIF, hIG, hIR, hFF, (fun _ _ => rfl), (fun _ _ => rfl)⟩ hM hS dX13_reckon_122
  · refine lv_tableIn (off := 122) (tgt := 123) hx hb dX13_reckon_1 (by omega) (by omega) (by rw [hsw]; rfl) (by decide) ?_
    refine lv_lload_n hx hb dX13_reckon_123 rfl (lv_at hl 2 rfl) ?_
    refine lv_lload hx hb dX13_reckon_124 (lv_at hl 3 rfl) ?_
    refine W.lcmp hx hb dX13_reckon_126 ?_
    refine lv_if_ge (tgt := 134) hx hb dX13_reckon_127 (by decide) (fun c9 => ?_) (fun c9 => ?_)
    · have hc19 : p3.toInt ≤ p2.toInt := ((lg_cmp_ge _ _).trans (fl_le rfl rfl)).mp c9
      refine lv_lconst (v := 0) hx hb dX13_reckon_134 (by decide) ?_
      have hk_0 : (0 : Int64).toInt = 0 := by decide
      exact mz_lret (v := 0) hx hb hr hlocks ⟨hIF, hIG, hIR, (fun _ _ => rfl), (fun _ _ => rfl), (fun _ _ => rfl)⟩ hM hS dX13_reckon_135
    · have hc19 : ¬ (p3.toInt ≤ p2.toInt) := fun h9 => c9 (((lg_cmp_ge _ _).trans (fl_le rfl rfl)).mpr h9)
      refine lv_lconst (v := 1) hx hb dX13_reckon_130 (by decide) ?_
      refine lv_goto (tgt := 135) hx hb dX13_reckon_131 (by decide) ?_
      have hk_1 : (1 : Int64).toInt = 1 := by decide
      exact mz_lret (v := 1) hx hb hr hlocks ⟨hIF, hIG, hIR, (fun _ _ => rfl), (fun _ _ => rfl), (fun _ _ => rfl)⟩ hM hS dX13_reckon_135
  · refine lv_tableIn (off := 135) (tgt := 136) hx hb dX13_reckon_1 (by omega) (by omega) (by rw [hsw]; rfl) (by decide) ?_
    refine lv_lload_n hx hb dX13_reckon_136 rfl (lv_at hl 2 rfl) ?_
    refine lv_lload hx hb dX13_reckon_137 (lv_at hl 3 rfl) ?_
    refine W.lcmp hx hb dX13_reckon_139 ?_
    refine lv_if_le (tgt := 147) hx hb dX13_reckon_140 (by decide) (fun c9 => ?_) (fun c9 => ?_)
    · have hc20 : p2.toInt ≤ p3.toInt := ((lg_cmp_le _ _).trans (fl_le rfl rfl)).mp c9
      refine lv_lconst (v := 0) hx hb dX13_reckon_147 (by decide) ?_
      have hk_0 : (0 : Int64).toInt = 0 := by decide
      exact mz_lret (v := 0) hx hb hr hlocks ⟨hIF, hIG, hIR, (fun _ _ => rfl), (fun _ _ => rfl), (fun _ _ => rfl)⟩ hM hS dX13_reckon_148
    · have hc20 : ¬ (p2.toInt ≤ p3.toInt) := fun h9 => c9 (((lg_cmp_le _ _).trans (fl_le rfl rfl)).mpr h9)
      refine lv_lconst (v := 1) hx hb dX13_reckon_143 (by decide) ?_
      refine lv_goto (tgt := 148) hx hb dX13_reckon_144 (by decide) ?_
      have hk_1 : (1 : Int64).toInt = 1 := by decide
      exact mz_lret (v := 1) hx hb hr hlocks ⟨hIF, hIG, hIR, (fun _ _ => rfl), (fun _ _ => rfl), (fun _ _ => rfl)⟩ hM hS dX13_reckon_148
  · refine lv_tableOut (tgt := 149) hx hb dX13_reckon_1 (by omega) (by decide) ?_
    refine lv_lload_n hx hb dX13_reckon_149 rfl (lv_at hl 2 rfl) ?_
    refine lv_lload hx hb dX13_reckon_150 (lv_at hl 3 rfl) ?_
    refine W.lcmp hx hb dX13_reckon_152 ?_
    refine lv_if_ne (tgt := 160) hx hb dX13_reckon_153 (by decide) (fun c9 => ?_) (fun c9 => ?_)
    · have hc21 : ¬ (p2.toInt = p3.toInt) := fun h9 => c9 (((lg_cmp_eq _ _).trans (fl_eq rfl rfl)).mpr h9)
      refine lv_lconst (v := 0) hx hb dX13_reckon_160 (by decide) ?_
      have hk_0 : (0 : Int64).toInt = 0 := by decide
      exact mz_lret (v := 0) hx hb hr hlocks ⟨hIF, hIG, hIR, (fun _ _ => rfl), (fun _ _ => rfl), (fun _ _ => rfl)⟩ hM hS dX13_reckon_161
    · have hc21 : p2.toInt = p3.toInt := ((lg_cmp_eq _ _).trans (fl_eq rfl rfl)).mp c9
      refine lv_lconst (v := 1) hx hb dX13_reckon_156 (by decide) ?_
      refine lv_goto (tgt := 161) hx hb dX13_reckon_157 (by decide) ?_
      have hk_1 : (1 : Int64).toInt = 1 := by decide
      exact mz_lret (v := 1) hx hb hr hlocks ⟨hIF, hIG, hIR, (fun _ _ => rfl), (fun _ _ => rfl), (fun _ _ => rfl)⟩ hM hS dX13_reckon_161
  · refine lv_tableOut (tgt := 149) hx hb dX13_reckon_1 (by omega) (by decide) ?_
    refine lv_lload_n hx hb dX13_reckon_149 rfl (lv_at hl 2 rfl) ?_
    refine lv_lload hx hb dX13_reckon_150 (lv_at hl 3 rfl) ?_
    refine W.lcmp hx hb dX13_reckon_152 ?_
    refine lv_if_ne (tgt := 160) hx hb dX13_reckon_153 (by decide) (fun c9 => ?_) (fun c9 => ?_)
    · have hc22 : ¬ (p2.toInt = p3.toInt) := fun h9 => c9 (((lg_cmp_eq _ _).trans (fl_eq rfl rfl)).mpr h9)
      refine lv_lconst (v := 0) hx hb dX13_reckon_160 (by decide) ?_
      have hk_0 : (0 : Int64).toInt = 0 := by decide
      exact mz_lret (v := 0) hx hb hr hlocks ⟨hIF, hIG, hIR, (fun _ _ => rfl), (fun _ _ => rfl), (fun _ _ => rfl)⟩ hM hS dX13_reckon_161
    · have hc22 : p2.toInt = p3.toInt := ((lg_cmp_eq _ _).trans (fl_eq rfl rfl)).mp c9
      refine lv_lconst (v := 1) hx hb dX13_reckon_156 (by decide) ?_
      refine lv_goto (tgt := 161) hx hb dX13_reckon_157 (by decide) ?_
      have hk_1 : (1 : Int64).toInt = 1 := by decide
      exact mz_lret (v := 1) hx hb hr hlocks ⟨hIF, hIG, hIR, (fun _ _ => rfl), (fun _ _ => rfl), (fun _ _ => rfl)⟩ hM hS dX13_reckon_161
end
section
set_option maxHeartbeats 4000000 in
set_option maxRecDepth 100000 in
theorem k_X13_ofSinger_0 (l : Launch) (D : va_G) (cy : Nat → ClassId) (ld ad : Nat → Nat) (am : Nat) (hD : mz_D ad am) (Fa : Nat → Int32) (Ga : Nat → Int64) (Ra : Nat → Nat → Int32) (Sa : Nat → Nat → Int64) (p1 : Int32) (hIF : mz_IF false Fa) (hIG : mz_IG Ga) (hIR : mz_IR [] true Ra) (hp_0 : (-1) ≤ p1.toInt) (hp_1 : p1.toInt ≤ 7) : Met l yX13_ofSinger (wl yX13_ofSinger cX13_ofSinger 3 (some .int)) ({ frames := 3, cells := 0, slots := 0, locals := 140 }) (mz_p D cy ld ad am Fa Ga Ra Sa [.ref am, .int p1, .int 0]) (mz_j D cy ad am Fa Ga Ra Sa (fun r => True)) 0 0 (mz_W ad am) := by
  refine mz_met (y := yX13_ofSinger) (cc := cX13_ofSinger) (maxL := 3) (ret := (some .int)) (av := [.ref am, .int p1, .int 0]) _ (by decide) (Nat.le_of_ble_eq_true rfl) ?_
  intro p e s m args below meth c hx hb hr hml hts htl hown hlocks hK H locs hM hS ls hl
  have hown : s.vm.findClass RX13 = some m.cls := hown
  have hl : lv_has ls 3 [(0, .ref am), (1, .int p1), (2, .int 0)] := hl
  have hr_p1 := tk_rng p1
  refine lv_aload_n hx hb dX13_ofSinger_0 rfl (lv_at hl 0 rfl) ?_
  refine mz_getR hx hb htl hown hK hM 3 (Nat.le_of_ble_eq_true rfl) (Nat.le_of_ble_eq_true rfl) (htl _ mw_188) (fun _ h9 => h9) dX13_ofSinger_1 ?_
  refine lv_bipush (v := 18) hx hb dX13_ofSinger_4 (by decide) ?_
  refine lv_iconst (v := 5) hx hb dX13_ofSinger_6 (by decide) ?_
  refine lv_iload_n hx hb dX13_ofSinger_7 rfl (lv_at hl 1 rfl) ?_
  refine lv_imul hx hb dX13_ofSinger_8 ?_
  refine tk_mul (show (5 : Int32).toInt = 5 by decide) rfl (by omega) (by omega) (fun v1 h_v1 => ?_)
  refine lv_iadd hx hb dX13_ofSinger_9 ?_
  refine tk_add (show (18 : Int32).toInt = 18 by decide) rfl (by omega) (by omega) (fun v2 h_v2 => ?_)
  refine lv_iload_n hx hb dX13_ofSinger_10 rfl (lv_at hl 2 rfl) ?_
  refine lv_iadd hx hb dX13_ofSinger_11 ?_
  refine tk_add rfl (show (0 : Int32).toInt = 0 by decide) (by omega) (by omega) (fun v3 h_v3 => ?_)
  refine mz_iald hx hb hK hM 3 (Nat.le_of_ble_eq_true rfl) rfl (nn := 5560) rfl rfl (by omega) (by omega) dX13_ofSinger_12 (fun v4 e_v4 => ?_)
  have hq_v4 := tk_rng v4
  exact mz_jret (v := v4) hx hb hr rfl hlocks trivial hM hS dX13_ofSinger_13
end
