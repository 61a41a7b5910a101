theorem dX13_force_0 : decode cX13_force 0 = .ok (.aload_n 0, 1) := by decide +kernel
theorem dX13_force_1 : decode cX13_force 1 = .ok (.iconst 0, 1) := by decide +kernel
theorem dX13_force_2 : decode cX13_force 2 = .ok (.putfield 170, 3) := by decide +kernel
theorem dX13_force_5 : decode cX13_force 5 = .ok (.iload_n 1, 1) := by decide +kernel
theorem dX13_force_6 : decode cX13_force 6 = .ok (.iconst (-1), 1) := by decide +kernel
theorem dX13_force_7 : decode cX13_force 7 = .ok (.if_icmp .eq 21, 3) := by decide +kernel
theorem dX13_force_28 : decode cX13_force 28 = .ok (.aload_n 0, 1) := by decide +kernel
theorem dX13_force_29 : decode cX13_force 29 = .ok (.iconst 5, 1) := by decide +kernel
theorem dX13_force_30 : decode cX13_force 30 = .ok (.iload_n 1, 1) := by decide +kernel
theorem dX13_force_31 : decode cX13_force 31 = .ok (.invokevirtual 221, 3) := by decide +kernel
theorem dX13_force_34 : decode cX13_force 34 = .ok (.goto 9, 3) := by decide +kernel
theorem dX13_force_43 : decode cX13_force 43 = .ok (.ireturn, 1) := by decide +kernel
theorem dX13_force_10 : decode cX13_force 10 = .ok (.iload_n 1, 1) := by decide +kernel
theorem dX13_force_11 : decode cX13_force 11 = .ok (.i2l, 1) := by decide +kernel
theorem dX13_force_12 : decode cX13_force 12 = .ok (.lconst 0, 1) := by decide +kernel
theorem dX13_force_13 : decode cX13_force 13 = .ok (.aload_n 0, 1) := by decide +kernel
theorem dX13_force_14 : decode cX13_force 14 = .ok (.getfield 13, 3) := by decide +kernel
theorem dX13_force_17 : decode cX13_force 17 = .ok (.iconst 4, 1) := by decide +kernel
theorem dX13_force_18 : decode cX13_force 18 = .ok (.iaload, 1) := by decide +kernel
theorem dX13_force_19 : decode cX13_force 19 = .ok (.i2l, 1) := by decide +kernel
theorem dX13_force_20 : decode cX13_force 20 = .ok (.lconst 1, 1) := by decide +kernel
theorem dX13_force_21 : decode cX13_force 21 = .ok (.lsub, 1) := by decide +kernel
theorem dX13_force_22 : decode cX13_force 22 = .ok (.invokestatic 190, 3) := by decide +kernel
theorem dX13_force_25 : decode cX13_force 25 = .ok (.ifCond .eq 12, 3) := by decide +kernel
theorem dX13_force_37 : decode cX13_force 37 = .ok (.aload_n 0, 1) := by decide +kernel
theorem dX13_force_38 : decode cX13_force 38 = .ok (.bipush (-2), 2) := by decide +kernel
theorem dX13_force_40 : decode cX13_force 40 = .ok (.invokevirtual 183, 3) := by decide +kernel
set_option maxHeartbeats 4000000 in
set_option maxRecDepth 100000 in
theorem k_X13_force (l : Launch) (D : va_G) (cy : Nat → ClassId) (ld ad : Nat → Nat) (am : Nat) (hD : mz_D ad am) (Fa : Nat → Int32) (Ga : Nat → Int64) (Ra : Nat → Nat → Int32) (Sa : Nat → Nat → Int64) (p1 : Int32) (hIF : mz_IF true Fa) (hIG : mz_IG Ga) (hIR : mz_IR [] true Ra) : Met l yX13_force (wl yX13_force cX13_force 2 (some .int)) ({ frames := 4, cells := 0, slots := 0, locals := 210 }) (mz_p D cy ld ad am Fa Ga Ra Sa [.ref am, .int p1]) (mz_i D cy ad am (fun r F G R S => mz_IF true F ∧ mz_IG G ∧ mz_IR [] true R ∧ (∀ k : Nat, k ∉ ([0, 1] : List Nat) → F k = Fa k) ∧ (∀ k : Nat, k ∉ ([2, 3] : List Nat) → R k = Ra k) ∧ (∀ k : Nat, k ∉ ([] : List Nat) → G k = Ga k) ∧ rK3 (Ra 3) (R 3))) 0 0 (mz_W ad am) := by
  refine mz_met (y := yX13_force) (cc := cX13_force) (maxL := 2) (ret := (some .int)) (av := [.ref am, .int p1]) _ (by decide) (Nat.le_of_ble_eq_true rfl) ?_
  intro p e s m args below meth c hx hb hr hml hts htl hown hlocks hK H locs hM hS ls hl
  have hown : s.vm.findClass RX13 = some m.cls := hown
  have hl : lv_has ls 2 [(0, .ref am), (1, .int p1)] := hl
  have hr_p1 := tk_rng p1
  refine lv_aload_n hx hb dX13_force_0 rfl (lv_at hl 0 rfl) ?_
  refine lv_iconst (v := 0) hx hb dX13_force_1 (by decide) ?_
  have hk_0 : (0 : Int32).toInt = 0 := by decide
  refine mz_putI (ty := .int) (x := 0) hx hb htl hown hK hD hM hS 0 (Nat.le_of_ble_eq_true rfl) rfl (htl _ mw_286) (fun _ h9 => h9) rfl (tyX13_ok 0 (by decide)) rfl rfl dX13_force_2 (fun H locs F hM hS hf9 hj9 => ?_)
  have hIF := hIF.put hf9 hj9 (tk_rng _).1 (tk_rng _).2 (by decide)
  have hFF := mz_frp (K := [0, 1]) (Fa := Fa) hj9 (fun _ _ => rfl) (by decide)
  have hf2 := hf9
  refine lv_iload_n hx hb dX13_force_5 rfl (lv_at hl 1 rfl) ?_
  refine lv_iconst (v := (-1)) hx hb dX13_force_6 (by decide) ?_
  refine lv_icmp_eq (tgt := 28) hx hb dX13_force_7 (by decide) (fun c9 => ?_) (fun c9 => ?_)
  · have hc3 : p1.toInt = (-1) := (fi_eq rfl (show ((-1) : Int32).toInt = (-1) by decide)).mp c9
    refine lv_aload_n hx hb dX13_force_28 rfl (lv_at hl 0 rfl) ?_
    refine lv_iconst (v := 5) hx hb dX13_force_29 (by decide) ?_
    refine lv_iload_n hx hb dX13_force_30 rfl (lv_at hl 1 rfl) ?_
    have hk_5 : (5 : Int32).toInt = 5 := by decide
    refine mz_Vi (As := [.int 5, .int p1]) (rest := []) ⟨hx, hb, hml, hown, hts⟩ hK hM hS (k_X13_change l D cy ld ad am hD _ _ _ _ 5 p1 hIF hIG hIR (by omega) (by omega) (by omega)) ⟨callB_of 2 hts (wl_in mw_399) rfl rfl rfl (htl _ mw_5) (htl _ mw_396) hd_yX13_change ⟨(Nat.le_of_ble_eq_true rfl), (Nat.le_of_ble_eq_true rfl)⟩, htl _ mw_397, htl _ mw_398⟩ rfl hl.1 rfl (Nat.le_of_ble_eq_true rfl) dX13_force_31 ⟨(Nat.le_of_ble_eq_true rfl), (Nat.le_of_ble_eq_true rfl)⟩ (fun v4 H locs F G R S hpo hM hS => ?_)
    obtain ⟨hIF, hIG, hIR, hfr9, hrr9, hgr9, hrel9⟩ := hpo
    have hq_v4 := tk_rng v4
    have hFF := mz_fr (K := [0, 1]) (Fa := Fa) hfr9 hFF (by decide)
    have hRR := mz_fr (K := [2, 3]) (Fa := Ra) hrr9 (fun _ _ => rfl) (by decide)
    have hGG := mz_fr (K := []) (Fa := Ga) hgr9 (fun _ _ => rfl) (by decide)
    have hrel := (rK3.refl rfl).trans hrel9
    have hf2 := (hfr9 0 (by decide)).trans hf2
    refine lv_goto (tgt := 43) hx hb dX13_force_34 (by decide) ?_
    exact mz_iret (v := v4) hx hb hr rfl hlocks ⟨hIF, hIG, hIR, hFF, hRR, hGG, hrel⟩ hM hS dX13_force_43
  · have hc3 : ¬ (p1.toInt = (-1)) := fun h9 => c9 ((fi_eq rfl (show ((-1) : Int32).toInt = (-1) by decide)).mpr h9)
    refine lv_iload_n hx hb dX13_force_10 rfl (lv_at hl 1 rfl) ?_
    obtain ⟨w6, e_w6, h_w6⟩ : ∃ z : Int64, p1.toInt64 = z ∧ z.toInt = p1.toInt := ⟨_, rfl, fl_w _⟩
    refine lv_i2l (v := w6) hx hb dX13_force_11 e_w6 ?_
    refine lv_lconst (v := 0) hx hb dX13_force_12 (by decide) ?_
    refine lv_aload_n hx hb dX13_force_13 rfl (lv_at hl 0 rfl) ?_
    refine mz_getR hx hb htl hown hK hM 3 (Nat.le_of_ble_eq_true rfl) (Nat.le_of_ble_eq_true rfl) (htl _ mw_188) (fun _ h9 => h9) dX13_force_14 ?_
    refine lv_iconst (v := 4) hx hb dX13_force_17 (by decide) ?_
    refine mz_iald hx hb hK hM 3 (Nat.le_of_ble_eq_true rfl) rfl (nn := 5560) rfl (I := 4) (by decide) (by decide) (by decide) dX13_force_18 (fun v11 hf10 => ?_)
    have hf10 : Ra 3 4 = v11 := hf10
    have hq_v11 := tk_rng v11
    have hr_v11 : 0 ≤ v11.toInt ∧ v11.toInt ≤ 6 := by have h9 := mz_r3c 4 (hIR.at 3) hf10 (by decide); unfold mE at h9; omega
    obtain ⟨w12, e_w12, h_w12⟩ : ∃ z : Int64, v11.toInt64 = z ∧ z.toInt = v11.toInt := ⟨_, rfl, fl_w _⟩
    refine lv_i2l (v := w12) hx hb dX13_force_19 e_w12 ?_
    refine lv_lconst (v := 1) hx hb dX13_force_20 (by decide) ?_
    refine lv_lsub hx hb dX13_force_21 ?_
    refine tk_lsub rfl (show (1 : Int64).toInt = 1 by decide) (by omega) (by omega) (fun w13 h_w13 => ?_)
    have hk_0 : (0 : Int64).toInt = 0 := by decide
    refine mz_Sj (As := [.long w6, .long 0, .long w13]) (rest := []) ⟨hx, hb, hml, hown, hts⟩ hK hM hS (k_X13_in l D cy ld ad am hD _ _ _ _ w6 0 w13) ⟨callB_of 3 hts (wl_in mw_292) rfl rfl rfl (htl _ mw_5) (htl _ mw_290) hd_yX13_in ⟨(Nat.le_of_ble_eq_true rfl), (Nat.le_of_ble_eq_true rfl)⟩, htl _ mw_291⟩ rfl hl.1 rfl (Nat.le_of_ble_eq_true rfl) dX13_force_22 ⟨(Nat.le_of_ble_eq_true rfl), (Nat.le_of_ble_eq_true rfl)⟩ (fun v14 H locs hpo hM hS => ?_)
    obtain ⟨hpo15, hpo16, hpo17, hpo18, hpo19, hpo20⟩ := hpo
    have hq_v14 := tk_rng v14
    refine lv_if_eq (tgt := 37) hx hb dX13_force_25 (by decide) (fun c9 => ?_) (fun c9 => ?_)
    · have hc22 : v14.toInt = 0 := (fi_eq rfl (show (0 : Int32).toInt = 0 by decide)).mp c9
      refine lv_aload_n hx hb dX13_force_37 rfl (lv_at hl 0 rfl) ?_
      refine lv_bipush (v := (-2)) hx hb dX13_force_38 (by decide) ?_
      have hk_m2 : ((-2) : Int32).toInt = (-2) := by decide
      refine mz_Vi (As := [.int (-2)]) (rest := []) ⟨hx, hb, hml, hown, hts⟩ hK hM hS (k_X13_tell l D cy ld ad am hD _ _ _ _ (-2) hIF hIG hIR (by omega) (by omega)) ⟨callB_of 1 hts (wl_in mw_296) rfl rfl rfl (htl _ mw_5) (htl _ mw_293) hd_yX13_tell ⟨(Nat.le_of_ble_eq_true rfl), (Nat.le_of_ble_eq_true rfl)⟩, htl _ mw_294, htl _ mw_295⟩ rfl hl.1 rfl (Nat.le_of_ble_eq_true rfl) dX13_force_40 ⟨(Nat.le_of_ble_eq_true rfl), (Nat.le_of_ble_eq_true rfl)⟩ (fun v23 H locs F G R S hpo hM hS => ?_)
      obtain ⟨hIF, hIG, hIR, hfr9, hrr9, hgr9, hpo24⟩ := hpo
      have hq_v23 := tk_rng v23
      have hFF := mz_fr (K := [0, 1]) (Fa := Fa) hfr9 hFF (by decide)
      have hRR := mz_fr (K := [2, 3]) (Fa := Ra) hrr9 (fun _ _ => rfl) (by decide)
      have hGG := mz_fr (K := []) (Fa := Ga) hgr9 (fun _ _ => rfl) (by decide)
      have hrel : rK3 (Ra 3) (R 3) := (rK3.refl rfl).trans (rK3.refl (hrr9 3 (by decide)))
      have hf2 := (hfr9 0 (by decide)).trans hf2
      have hf10 : R 3 4 = _ := (congrFun (hrr9 3 (by decide)) 4).trans hf10
      exact mz_iret (v := v23) hx hb hr rfl hlocks ⟨hIF, hIG, hIR, hFF, hRR, hGG, hrel⟩ hM hS dX13_force_43
    · have hc22 : ¬ (v14.toInt = 0) := fun h9 => c9 ((fi_eq rfl (show (0 : Int32).toInt = 0 by decide)).mpr h9)
      have hwk_26 : 0 ≤ w6.toInt ∧ 0 ≤ w13.toInt + (-1) * w6.toInt := by omega
      refine lv_aload_n hx hb dX13_force_28 rfl (lv_at hl 0 rfl) ?_
      refine lv_iconst (v := 5) hx hb dX13_force_29 (by decide) ?_
      refine lv_iload_n hx hb dX13_force_30 rfl (lv_at hl 1 rfl) ?_
      have hk_5 : (5 : Int32).toInt = 5 := by decide
      refine mz_Vi (As := [.int 5, .int p1]) (rest := []) ⟨hx, hb, hml, hown, hts⟩ hK hM hS (k_X13_change l D cy ld ad am hD _ _ _ _ 5 p1 hIF hIG hIR (by omega) (by omega) (by omega)) ⟨callB_of 2 hts (wl_in mw_399) rfl rfl rfl (htl _ mw_5) (htl _ mw_396) hd_yX13_change ⟨(Nat.le_of_ble_eq_true rfl), (Nat.le_of_ble_eq_true rfl)⟩, htl _ mw_397, htl _ mw_398⟩ rfl hl.1 rfl (Nat.le_of_ble_eq_true rfl) dX13_force_31 ⟨(Nat.le_of_ble_eq_true rfl), (Nat.le_of_ble_eq_true rfl)⟩ (fun v27 H locs F G R S hpo hM hS => ?_)
      obtain ⟨hIF, hIG, hIR, hfr9, hrr9, hgr9, hrel9⟩ := hpo
      have hq_v27 := tk_rng v27
      have hFF := mz_fr (K := [0, 1]) (Fa := Fa) hfr9 hFF (by decide)
      have hRR := mz_fr (K := [2, 3]) (Fa := Ra) hrr9 (fun _ _ => rfl) (by decide)
      have hGG := mz_fr (K := []) (Fa := Ga) hgr9 (fun _ _ => rfl) (by decide)
      have hrel := (rK3.refl rfl).trans hrel9
      have hf2 := (hfr9 0 (by decide)).trans hf2
      refine lv_goto (tgt := 43) hx hb dX13_force_34 (by decide) ?_
      exact mz_iret (v := v27) hx hb hr rfl hlocks ⟨hIF, hIG, hIR, hFF, hRR, hGG, hrel⟩ hM hS dX13_force_43
