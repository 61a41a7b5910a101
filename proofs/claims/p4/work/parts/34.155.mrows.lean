set_option maxHeartbeats 4000000 in
set_option maxRecDepth 100000 in
theorem k_X13_law (l : Launch) (D : va_G) (cy : Nat → ClassId) (ld ad : Nat → Nat) (am : Nat) (hD : mz_D ad am) (Fa : Nat → Int32) (Ga : Nat → Int64) (Ra : Nat → Nat → Int32) (Sa : Nat → Nat → Int64) (hIF : mz_IF true Fa) (hIG : mz_IG Ga) (hIR : mz_IR [] true Ra) : Met l yX13_law (wl yX13_law cX13_law 3 (some .int)) ({ frames := 11, cells := 0, slots := 0, locals := 700 }) (mz_p D cy ld ad am Fa Ga Ra Sa [.ref am]) (mz_i D cy ad am (fun r F G R S => mz_IF true F ∧ mz_IG G ∧ mz_IR [] true R ∧ (∀ k : Nat, k ∉ ([0, 1, 13, 14, 15, 16, 18, 19, 20, 21, 23, 26, 29, 30] : List Nat) → F k = Fa k) ∧ (∀ k : Nat, k ∉ ([2, 3, 22, 24, 25, 27, 28] : List Nat) → R k = Ra k) ∧ (∀ k : Nat, k ∉ ([17] : List Nat) → G k = Ga k) ∧ rK3 (Ra 3) (R 3) ∧ (F 13).toInt = 0 ∧ (-6) ≤ r.toInt ∧ r.toInt ≤ 5)) 0 0 (mz_W ad am) := by
  refine mz_met (y := yX13_law) (cc := cX13_law) (maxL := 3) (ret := (some .int)) (av := [.ref am]) _ (by decide) (Nat.le_of_ble_eq_true rfl) ?_
  intro p e s m args below meth c hx hb hr hml hts htl hown hlocks hK H locs hM hS ls hl
  have hown : s.vm.findClass RX13 = some m.cls := hown
  have hl : lv_has ls 3 [(0, .ref am)] := hl
  refine lv_aload_n hx hb dX13_law_0 rfl (lv_at hl 0 rfl) ?_
  refine lv_iconst (v := 0) hx hb dX13_law_1 (by decide) ?_
  have hk_0 : (0 : Int32).toInt = 0 := by decide
  refine mz_putI (ty := .int) (x := 0) hx hb htl hown hK hD hM hS 0 (Nat.le_of_ble_eq_true rfl) rfl (htl _ mw_286) (fun _ h9 => h9) rfl (tyX13_ok 0 (by decide)) rfl rfl dX13_law_2 (fun H locs F hM hS hf9 hj9 => ?_)
  have hIF := hIF.put hf9 hj9 (tk_rng _).1 (tk_rng _).2 (by decide)
  have hFF := mz_frp (K := [0, 1, 13, 14, 15, 16, 18, 19, 20, 21, 23, 26, 29, 30]) (Fa := Fa) hj9 (fun _ _ => rfl) (by decide)
  have hf2 := hf9
  refine lv_aload_n hx hb dX13_law_5 rfl (lv_at hl 0 rfl) ?_
  refine mz_getR hx hb htl hown hK hM 3 (Nat.le_of_ble_eq_true rfl) (Nat.le_of_ble_eq_true rfl) (htl _ mw_188) (fun _ h9 => h9) dX13_law_6 ?_
  refine lv_iconst (v := 4) hx hb dX13_law_9 (by decide) ?_
  refine mz_iald hx hb hK hM 3 (Nat.le_of_ble_eq_true rfl) rfl (nn := 5560) rfl (I := 4) (by decide) (by decide) (by decide) dX13_law_10 (fun v4 hf3 => ?_)
  have hf3 : Ra 3 4 = v4 := hf3
  have hq_v4 := tk_rng v4
  have hr_v4 : 0 ≤ v4.toInt ∧ v4.toInt ≤ 6 := by have h9 := mz_r3c 4 (hIR.at 3) hf3 (by decide); unfold mE at h9; omega
  refine lv_bipush (v := 6) hx hb dX13_law_11 (by decide) ?_
  refine lv_icmp_ne (tgt := 28) hx hb dX13_law_13 (by decide) (fun c9 => ?_) (fun c9 => ?_)
  · have hc5 : ¬ (v4.toInt = 6) := fun h9 => c9 ((fi_eq rfl (show (6 : Int32).toInt = 6 by decide)).mpr h9)
    refine lv_aload_n hx hb dX13_law_28 rfl (lv_at hl 0 rfl) ?_
    refine lv_iconst (v := 0) hx hb dX13_law_29 (by decide) ?_
    obtain ⟨v10, hf6⟩ : ∃ z : Int32, F 13 = z := ⟨_, rfl⟩
    have hq_v10 := tk_rng v10
    have hr_v10 : 0 ≤ v10.toInt ∧ v10.toInt ≤ 400 := hIF.at hf6
    have hk_0 : (0 : Int32).toInt = 0 := by decide
    refine mz_Vv (As := [.int 0]) (rest := []) ⟨hx, hb, hml, hown, hts⟩ hK hM hS (k_X13_beginText l D cy ld ad am hD _ _ _ _ 0 v10 hIF hIG hIR hf6 (by omega) (by omega)) ⟨callB_of 1 hts (wl_in mw_674) rfl rfl rfl (htl _ mw_5) (htl _ mw_671) hd_yX13_beginText ⟨(Nat.le_of_ble_eq_true rfl), (Nat.le_of_ble_eq_true rfl)⟩, htl _ mw_672, htl _ mw_673⟩ rfl hl.1 rfl (Nat.le_of_ble_eq_true rfl) dX13_law_30 ⟨(Nat.le_of_ble_eq_true rfl), (Nat.le_of_ble_eq_true rfl)⟩ (fun H locs F G R S hpo hM hS => ?_)
    obtain ⟨hIF, hIG, hIR, hfr9, hrr9, hgr9, hpo11, hpo12, hpo13, hpo14, hpo15, hpo16, hpo17⟩ := hpo
    have hFF := mz_fr (K := [0, 1, 13, 14, 15, 16, 18, 19, 20, 21, 23, 26, 29, 30]) (Fa := Fa) hfr9 hFF (by decide)
    have hRR := mz_fr (K := [2, 3, 22, 24, 25, 27, 28]) (Fa := Ra) hrr9 (fun _ _ => rfl) (by decide)
    have hGG := mz_fr (K := [17]) (Fa := Ga) hgr9 (fun _ _ => rfl) (by decide)
    have hrel : rK3 (Ra 3) (R 3) := (rK3.refl rfl).trans (rK3.refl (hrr9 3 (by decide)))
    have hf2 := (hfr9 0 (by decide)).trans hf2
    have hf3 : R 3 4 = _ := (congrFun (hrr9 3 (by decide)) 4).trans hf3
    have hf6 := (hfr9 13 (by decide)).trans hf6
    obtain ⟨v20, hf19⟩ : ∃ z : Int32, F 14 = z := ⟨_, rfl⟩
    have hq_v20 := tk_rng v20
    rw [hf19] at hpo11 hpo13 hpo14
    have hr_v20 : 0 ≤ v20.toInt ∧ v20.toInt ≤ 400 := hIF.at hf19
    obtain ⟨v22, hf21⟩ : ∃ z : Int32, F 15 = z := ⟨_, rfl⟩
    have hq_v22 := tk_rng v22
    rw [hf21] at hpo11 hpo12 hpo13 hpo14
    have hr_v22 : 0 ≤ v22.toInt ∧ v22.toInt ≤ 400 := hIF.at hf21
    obtain ⟨v24, hf23⟩ : ∃ z : Int32, F 16 = z := ⟨_, rfl⟩
    have hq_v24 := tk_rng v24
    rw [hf23] at hpo13 hpo14
    have hr_v24 : 0 ≤ v24.toInt ∧ v24.toInt ≤ 3 := hIF.at hf23
    obtain ⟨w26, hf25⟩ : ∃ z : Int64, G 17 = z := ⟨_, rfl⟩
    have hq_w26 := tk_rngL w26
    rw [hf25] at hpo14
    obtain ⟨v28, hf27⟩ : ∃ z : Int32, F 19 = z := ⟨_, rfl⟩
    have hq_v28 := tk_rng v28
    rw [hf27] at hpo15
    have hr_v28 : 0 ≤ v28.toInt ∧ v28.toInt ≤ 1 := hIF.at hf27
    obtain ⟨v30, hf29⟩ : ∃ z : Int32, F 23 = z := ⟨_, rfl⟩
    have hq_v30 := tk_rng v30
    rw [hf29] at hpo16
    have hr_v30 : 0 ≤ v30.toInt ∧ v30.toInt ≤ 400 := hIF.at hf29
    obtain ⟨v32, hf31⟩ : ∃ z : Int32, F 21 = z := ⟨_, rfl⟩
    have hq_v32 := tk_rng v32
    rw [hf31] at hpo17
    have hr_v32 : 0 ≤ v32.toInt ∧ v32.toInt ≤ 12 := hIF.at hf31
    refine lv_aload_n hx hb dX13_law_33 rfl (lv_at hl 0 rfl) ?_
    refine mz_Vv (As := []) (rest := []) ⟨hx, hb, hml, hown, hts⟩ hK hM hS (k_X13_readLaw l D cy ld ad am hD _ _ _ _ v20 v22 v24 v10 w26 v28 v30 v32 hIF hIG hIR hf19 hf21 hf23 hf6 hf25 hf27 hf29 hf31 (by omega) (by omega) (by omega) (by omega) (by omega) (by omega) (by rw [show v32.toInt = 0 by omega]; exact CLS.none _ _ _ _ _ _)) ⟨callB_of 0 hts (wl_in mw_704) rfl rfl rfl (htl _ mw_5) (htl _ mw_701) hd_yX13_readLaw ⟨(Nat.le_of_ble_eq_true rfl), (Nat.le_of_ble_eq_true rfl)⟩, htl _ mw_702, htl _ mw_703⟩ rfl hl.1 rfl (Nat.le_of_ble_eq_true rfl) dX13_law_34 ⟨(Nat.le_of_ble_eq_true rfl), (Nat.le_of_ble_eq_true rfl)⟩ (fun H locs F G R S hpo hM hS => ?_)
    obtain ⟨hIF, hIG, hIR, hfr9, hrr9, hgr9, hpo33, hpo34, hpo35, hpo36, hpo37, hpo38, hpo39, hpo40, hpo41, hx42⟩ := hpo
    have hFF := mz_fr (K := [0, 1, 13, 14, 15, 16, 18, 19, 20, 21, 23, 26, 29, 30]) (Fa := Fa) hfr9 hFF (by decide)
    have hRR := mz_fr (K := [2, 3, 22, 24, 25, 27, 28]) (Fa := Ra) hrr9 hRR (by decide)
    have hGG := mz_fr (K := [17]) (Fa := Ga) hgr9 hGG (by decide)
    have hrel : rK3 (Ra 3) (R 3) := hrel.trans (rK3.refl (hrr9 3 (by decide)))
    have hf2 := (hfr9 0 (by decide)).trans hf2
    have hf3 : R 3 4 = _ := (congrFun (hrr9 3 (by decide)) 4).trans hf3
    have hf6 := (hfr9 13 (by decide)).trans hf6
    obtain ⟨v45, hf44⟩ : ∃ z : Int32, F 14 = z := ⟨_, rfl⟩
    have hq_v45 := tk_rng v45
    rw [hf44] at hpo33 hpo35 hpo36 hpo37 hpo39 hpo41
    have hr_v45 : 0 ≤ v45.toInt ∧ v45.toInt ≤ 400 := hIF.at hf44
    obtain ⟨v47, hf46⟩ : ∃ z : Int32, F 15 = z := ⟨_, rfl⟩
    have hq_v47 := tk_rng v47
    rw [hf46] at hpo33 hpo34 hpo35 hpo36
    have hr_v47 : 0 ≤ v47.toInt ∧ v47.toInt ≤ 400 := hIF.at hf46
    obtain ⟨v49, hf48⟩ : ∃ z : Int32, F 16 = z := ⟨_, rfl⟩
    have hq_v49 := tk_rng v49
    rw [hf48] at hpo35 hpo36
    have hr_v49 : 0 ≤ v49.toInt ∧ v49.toInt ≤ 3 := hIF.at hf48
    obtain ⟨w51, hf50⟩ : ∃ z : Int64, G 17 = z := ⟨_, rfl⟩
    have hq_w51 := tk_rngL w51
    rw [hf50] at hpo36
    obtain ⟨v53, hf52⟩ : ∃ z : Int32, F 19 = z := ⟨_, rfl⟩
    have hq_v53 := tk_rng v53
    rw [hf52] at hpo40 hpo41
    have hr_v53 : 0 ≤ v53.toInt ∧ v53.toInt ≤ 1 := hIF.at hf52
    obtain ⟨v55, hf54⟩ : ∃ z : Int32, F 23 = z := ⟨_, rfl⟩
    have hq_v55 := tk_rng v55
    rw [hf54] at hpo38 hpo39
    have hr_v55 : 0 ≤ v55.toInt ∧ v55.toInt ≤ 400 := hIF.at hf54
    obtain ⟨v57, hf56⟩ : ∃ z : Int32, F 21 = z := ⟨_, rfl⟩
    have hq_v57 := tk_rng v57
    have hr_v57 : 0 ≤ v57.toInt ∧ v57.toInt ≤ 12 := hIF.at hf56
    have hCL := hx42
    have hl11418 : ∀ (N_l11418 : Nat) (v1616 : Int32) (v1617 : Int32) (v1618 : Int32) (v1619 : Int64) (v1620 : Int32) (v1621 : Int32) (v1622 : Int32) (H : Heap) (locs : List Loc) (F : Nat → Int32) (G : Nat → Int64) (R : Nat → Nat → Int32) (S : Nat → Nat → Int64), (0 ≤ v1618.toInt) → (v1620.toInt ≤ 1) → (0 ≤ v1622.toInt) → (v1622.toInt ≤ 12) → (0 ≤ v1616.toInt + (-1) * v45.toInt) → (0 ≤ v1617.toInt + (-1) * v47.toInt) → (0 ≤ (-1) * v1618.toInt + v49.toInt) → (0 ≤ v1620.toInt + (-1) * v53.toInt) → (0 ≤ v1621.toInt + (-1) * v55.toInt) → (0 ≤ (-1) * v1616.toInt + v1617.toInt) → (0 ≤ v10.toInt + (-1) * v1617.toInt) → (0 ≤ v1616.toInt + (-1) * v1621.toInt) → (mz_S D cy ad am F G R S H) → (va_S (mz_W ad am) s.heap H locs) → (mz_IF false F) → (mz_IG G) → (mz_IR [] true R) → (∀ k : Nat, k ∉ ([0, 1, 13, 14, 15, 16, 18, 19, 20, 21, 23, 26, 29, 30] : List Nat) → F k = Fa k) → (∀ k : Nat, k ∉ ([17] : List Nat) → G k = Ga k) → (∀ k : Nat, k ∉ ([2, 3, 22, 24, 25, 27, 28] : List Nat) → R k = Ra k) → (rK3 (Ra 3) (R 3)) → (F 0 = 0) → (R 3 4 = v4) → (F 13 = v10) → (F 14 = v1616) → (F 15 = v1617) → (F 16 = v1618) → (G 17 = v1619) → (F 19 = v1620) → (F 23 = v1621) → (F 21 = v1622) → ((1 ≤ v1618.toInt → 0 ≤ (-1) * v1616.toInt + v1617.toInt + (-1))) → ((27 ≤ v1619.toInt → 1 ≤ v1618.toInt → v1618.toInt ≤ 1 → 0 ≤ (-1) * v1616.toInt + v1617.toInt + (-2))) → ((F 19).toInt = 0 → CLS 8 [3, 5] (R 24) (R 25) (R 22) (F 23).toInt (F 21).toInt) → (mz_me v1620.toInt 0 v1616.toInt < (N_l11418 : Int)) → ∀ ls : Array Slot, lv_has ls 3 [(0, .ref am)] → W p l e ({ frames := 11, cells := 0, slots := 0, locals := 700 }) s m args below meth c H locs 0 0 (MQ below (mz_i D cy ad am (fun r F G R S => mz_IF true F ∧ mz_IG G ∧ mz_IR [] true R ∧ (∀ k : Nat, k ∉ ([0, 1, 13, 14, 15, 16, 18, 19, 20, 21, 23, 26, 29, 30] : List Nat) → F k = Fa k) ∧ (∀ k : Nat, k ∉ ([2, 3, 22, 24, 25, 27, 28] : List Nat) → R k = Ra k) ∧ (∀ k : Nat, k ∉ ([17] : List Nat) → G k = Ga k) ∧ rK3 (Ra 3) (R 3) ∧ (F 13).toInt = 0 ∧ (-6) ≤ r.toInt ∧ r.toInt ≤ 5)) args s 0 0 (mz_W ad am)) (F0 m 37 ls []) := by
      clear hCL hx42 hpo13 hpo14 hpo35 hpo36
      intro N_l11418
      induction N_l11418 with
      | zero => intro v1616 v1617 v1618 v1619 v1620 v1621 v1622 H locs F G R S hq0_l11418 hq1_l11418 hq2_l11418 hq3_l11418 hq4_l11418 hq5_l11418 hq6_l11418 hq7_l11418 hq8_l11418 hq9_l11418 hq10_l11418 hq11_l11418 hM hS hIF hIG hIR hFF hGG hRR hrel hf2 hf3 hf6 hf44 hf46 hf48 hf50 hf52 hf54 hf56 hc0_l11418 hc1_l11418 hCL hm_l11418 ls hl; exfalso; have h9 := mz_me.nn (b := v1620.toInt) (t := 0) (f := v1616.toInt) (by decide) (by omega); omega
      | succ N_l11418 ih_l11418 =>
        intro v1616 v1617 v1618 v1619 v1620 v1621 v1622 H locs F G R S hq0_l11418 hq1_l11418 hq2_l11418 hq3_l11418 hq4_l11418 hq5_l11418 hq6_l11418 hq7_l11418 hq8_l11418 hq9_l11418 hq10_l11418 hq11_l11418 hM hS hIF hIG hIR hFF hGG hRR hrel hf2 hf3 hf6 hf44 hf46 hf48 hf50 hf52 hf54 hf56 hc0_l11418 hc1_l11418 hCL hm_l11418 ls hl
        refine lv_aload_n hx hb dX13_law_37 rfl (lv_at hl 0 rfl) ?_
        refine mz_getI hx hb htl hown hK hM 19 (Nat.le_of_ble_eq_true rfl) rfl (htl _ mw_668) (fun _ h9 => h9) dX13_law_38 (fun v9 e9 => ?_)
        refine fx_ti (v := v1620) (e9.symm.trans hf52) ?_
        refine lv_if_ne (tgt := 64) hx hb dX13_law_41 (by decide) (fun c9 => ?_) (fun c9 => ?_)
        · have hc11419 : ¬ (v1620.toInt = 0) := fun h9 => c9 ((fi_eq rfl (show (0 : Int32).toInt = 0 by decide)).mpr h9)
          refine lv_aload_n hx hb dX13_law_64 rfl (lv_at hl 0 rfl) ?_
          have hf520 := hf52
          refine mz_Vv (As := []) (rest := []) ⟨hx, hb, hml, hown, hts⟩ hK hM hS (k_X13_endText_x l D cy ld ad am hD _ _ _ _ v1616 v1617 v1618 v10 v1619 v1620 hIF hIG hIR hf44 hf46 hf48 hf6 hf50 hf52 (by omega) (by omega) (by omega) (by omega)) ⟨callB_of 0 hts (wl_in mw_795) rfl rfl rfl (htl _ mw_5) (htl _ mw_792) hd_yX13_endText ⟨(Nat.le_of_ble_eq_true rfl), (Nat.le_of_ble_eq_true rfl)⟩, htl _ mw_793, htl _ mw_794⟩ rfl hl.1 rfl (Nat.le_of_ble_eq_true rfl) dX13_law_65 ⟨(Nat.le_of_ble_eq_true rfl), (Nat.le_of_ble_eq_true rfl)⟩ (fun H locs F G R S hpo hM hS => ?_)
          obtain ⟨hIF, hIG, hIR, hfr9, hrr9, hgr9, hpo11420, hpo11421⟩ := hpo
          have hFF := mz_fr (K := [0, 1, 13, 14, 15, 16, 18, 19, 20, 21, 23, 26, 29, 30]) (Fa := Fa) hfr9 hFF (by decide)
          have hRR := mz_fr (K := [2, 3, 22, 24, 25, 27, 28]) (Fa := Ra) hrr9 hRR (by decide)
          have hGG := mz_fr (K := [17]) (Fa := Ga) hgr9 hGG (by decide)
          have hrel : rK3 (Ra 3) (R 3) := hrel.trans (rK3.refl (hrr9 3 (by decide)))
          have hf2 := (hfr9 0 (by decide)).trans hf2
          have hf3 : R 3 4 = _ := (congrFun (hrr9 3 (by decide)) 4).trans hf3
          have hf54 := (hfr9 23 (by decide)).trans hf54
          have hf56 := (hfr9 21 (by decide)).trans hf56
          obtain ⟨v11424, hf11423⟩ : ∃ z : Int32, F 19 = z := ⟨_, rfl⟩
          have hq_v11424 := tk_rng v11424
          rw [hf11423] at hpo11420
          have hr_v11424 : 0 ≤ v11424.toInt ∧ v11424.toInt ≤ 1 := hIF.at hf11423
          obtain ⟨v11426, hf11425⟩ : ∃ z : Int32, F 13 = z := ⟨_, rfl⟩
          have hq_v11426 := tk_rng v11426
          rw [hf11425] at hpo11421
          have hr_v11426 : 0 ≤ v11426.toInt ∧ v11426.toInt ≤ 400 := hIF.at hf11425
          have hCL : (F 19).toInt = 0 → CLS 8 [3, 5] (R 24) (R 25) (R 22) (F 23).toInt (F 21).toInt := by rw [hf11423, hfr9 23 (by decide), hfr9 21 (by decide), hrr9 24 (by decide), hrr9 25 (by decide), hrr9 22 (by decide)]; exact fun h9 => hCL (by rw [hf520]; omega)
          refine lv_aload_n hx hb dX13_law_68 rfl (lv_at hl 0 rfl) ?_
          refine mz_getI hx hb htl hown hK hM 19 (Nat.le_of_ble_eq_true rfl) rfl (htl _ mw_668) (fun _ h9 => h9) dX13_law_69 (fun v9 e9 => ?_)
          refine fx_ti (v := v11424) (e9.symm.trans hf11423) ?_
          refine lv_if_eq (tgt := 82) hx hb dX13_law_72 (by decide) (fun c9 => absurd (show v11424.toInt = 0 from (fi_eq rfl (show (0 : Int32).toInt = 0 by decide)).mp c9) (by omega)) (fun _ => ?_)
          refine lv_aload_n hx hb dX13_law_75 rfl (lv_at hl 0 rfl) ?_
          refine lv_bipush (v := (-6)) hx hb dX13_law_76 (by decide) ?_
          have hk_m6 : ((-6) : Int32).toInt = (-6) := by decide
          refine mz_Vi (As := [.int (-6)]) (rest := []) ⟨hx, hb, hml, hown, hts⟩ hK hM hS (k_X13_tell l D cy ld ad am hD _ _ _ _ (-6) hIF hIG hIR (by omega) (by omega)) ⟨callB_of 1 hts (wl_in mw_296) rfl rfl rfl (htl _ mw_5) (htl _ mw_293) hd_yX13_tell ⟨(Nat.le_of_ble_eq_true rfl), (Nat.le_of_ble_eq_true rfl)⟩, htl _ mw_294, htl _ mw_295⟩ rfl hl.1 rfl (Nat.le_of_ble_eq_true rfl) dX13_law_78 ⟨(Nat.le_of_ble_eq_true rfl), (Nat.le_of_ble_eq_true rfl)⟩ (fun v11427 H locs F G R S hpo hM hS => ?_)
          obtain ⟨hIF, hIG, hIR, hfr9, hrr9, hgr9, hpo11428⟩ := hpo
          have hq_v11427 := tk_rng v11427
          have hFF := mz_fr (K := [0, 1, 13, 14, 15, 16, 18, 19, 20, 21, 23, 26, 29, 30]) (Fa := Fa) hfr9 hFF (by decide)
          have hRR := mz_fr (K := [2, 3, 22, 24, 25, 27, 28]) (Fa := Ra) hrr9 hRR (by decide)
          have hGG := mz_fr (K := [17]) (Fa := Ga) hgr9 hGG (by decide)
          have hrel : rK3 (Ra 3) (R 3) := hrel.trans (rK3.refl (hrr9 3 (by decide)))
          have hf2 := (hfr9 0 (by decide)).trans hf2
          have hf3 : R 3 4 = _ := (congrFun (hrr9 3 (by decide)) 4).trans hf3
          have hf54 := (hfr9 23 (by decide)).trans hf54
          have hf56 := (hfr9 21 (by decide)).trans hf56
          have hf11423 := (hfr9 19 (by decide)).trans hf11423
          have hf11425 := (hfr9 13 (by decide)).trans hf11425
          exact mz_iret (v := v11427) hx hb hr rfl hlocks ⟨hIF, hIG, hIR, hFF, hRR, hGG, hrel, (by rw [hf11425]; omega), (by omega), (by omega)⟩ hM hS dX13_law_81
        · have hc11419 : v1620.toInt = 0 := (fi_eq rfl (show (0 : Int32).toInt = 0 by decide)).mp c9
          have hwk_11430 : 0 ≤ (-1) * v20.toInt + v45.toInt + (-1) := by omega
          clear hpo41
          refine lv_aload_n hx hb dX13_law_44 rfl (lv_at hl 0 rfl) ?_
          refine lv_bipush (v := 59) hx hb dX13_law_45 (by decide) ?_
          have hk_59 : (59 : Int32).toInt = 59 := by decide
          refine mz_Vj (As := [.int 59]) (rest := []) ⟨hx, hb, hml, hown, hts⟩ hK hM hS (k_X13_isSign l D cy ld ad am hD _ _ _ _ 59 v1618 hIF hIG hIR hf48) ⟨callB_of 1 hts (wl_in mw_732) rfl rfl rfl (htl _ mw_5) (htl _ mw_729) hd_yX13_isSign ⟨(Nat.le_of_ble_eq_true rfl), (Nat.le_of_ble_eq_true rfl)⟩, htl _ mw_730, htl _ mw_731⟩ rfl hl.1 rfl (Nat.le_of_ble_eq_true rfl) dX13_law_47 ⟨(Nat.le_of_ble_eq_true rfl), (Nat.le_of_ble_eq_true rfl)⟩ (fun v11431 H locs hpo hM hS => ?_)
          obtain ⟨hpo11432, hpo11433, hpo11434, hpo11435, hpo11436⟩ := hpo
          have hq_v11431 := tk_rng v11431
          refine lv_if_eq (tgt := 64) hx hb dX13_law_50 (by decide) (fun c9 => ?_) (fun c9 => ?_)
          · have hc11438 : v11431.toInt = 0 := (fi_eq rfl (show (0 : Int32).toInt = 0 by decide)).mp c9
            refine lv_aload_n hx hb dX13_law_64 rfl (lv_at hl 0 rfl) ?_
            have hf520 := hf52
            refine mz_Vv (As := []) (rest := []) ⟨hx, hb, hml, hown, hts⟩ hK hM hS (k_X13_endText_x l D cy ld ad am hD _ _ _ _ v1616 v1617 v1618 v10 v1619 v1620 hIF hIG hIR hf44 hf46 hf48 hf6 hf50 hf52 (by omega) (by omega) (by omega) (by omega)) ⟨callB_of 0 hts (wl_in mw_795) rfl rfl rfl (htl _ mw_5) (htl _ mw_792) hd_yX13_endText ⟨(Nat.le_of_ble_eq_true rfl), (Nat.le_of_ble_eq_true rfl)⟩, htl _ mw_793, htl _ mw_794⟩ rfl hl.1 rfl (Nat.le_of_ble_eq_true rfl) dX13_law_65 ⟨(Nat.le_of_ble_eq_true rfl), (Nat.le_of_ble_eq_true rfl)⟩ (fun H locs F G R S hpo hM hS => ?_)
            obtain ⟨hIF, hIG, hIR, hfr9, hrr9, hgr9, hpo11439, hpo11440⟩ := hpo
            have hFF := mz_fr (K := [0, 1, 13, 14, 15, 16, 18, 19, 20, 21, 23, 26, 29, 30]) (Fa := Fa) hfr9 hFF (by decide)
            have hRR := mz_fr (K := [2, 3, 22, 24, 25, 27, 28]) (Fa := Ra) hrr9 hRR (by decide)
            have hGG := mz_fr (K := [17]) (Fa := Ga) hgr9 hGG (by decide)
            have hrel : rK3 (Ra 3) (R 3) := hrel.trans (rK3.refl (hrr9 3 (by decide)))
            have hf2 := (hfr9 0 (by decide)).trans hf2
            have hf3 : R 3 4 = _ := (congrFun (hrr9 3 (by decide)) 4).trans hf3
            have hf54 := (hfr9 23 (by decide)).trans hf54
            have hf56 := (hfr9 21 (by decide)).trans hf56
            obtain ⟨v11443, hf11442⟩ : ∃ z : Int32, F 19 = z := ⟨_, rfl⟩
            have hq_v11443 := tk_rng v11443
            rw [hf11442] at hpo11439
            have hr_v11443 : 0 ≤ v11443.toInt ∧ v11443.toInt ≤ 1 := hIF.at hf11442
            obtain ⟨v11445, hf11444⟩ : ∃ z : Int32, F 13 = z := ⟨_, rfl⟩
            have hq_v11445 := tk_rng v11445
            rw [hf11444] at hpo11440
            have hr_v11445 : 0 ≤ v11445.toInt ∧ v11445.toInt ≤ 400 := hIF.at hf11444
            have hCL : (F 19).toInt = 0 → CLS 8 [3, 5] (R 24) (R 25) (R 22) (F 23).toInt (F 21).toInt := by rw [hf11442, hfr9 23 (by decide), hfr9 21 (by decide), hrr9 24 (by decide), hrr9 25 (by decide), hrr9 22 (by decide)]; exact fun h9 => hCL (by rw [hf520]; omega)
            refine lv_aload_n hx hb dX13_law_68 rfl (lv_at hl 0 rfl) ?_
            refine mz_getI hx hb htl hown hK hM 19 (Nat.le_of_ble_eq_true rfl) rfl (htl _ mw_668) (fun _ h9 => h9) dX13_law_69 (fun v9 e9 => ?_)
            refine fx_ti (v := v11443) (e9.symm.trans hf11442) ?_
            refine lv_if_eq (tgt := 82) hx hb dX13_law_72 (by decide) (fun c9 => ?_) (fun c9 => ?_)
            · have hc11446 : v11443.toInt = 0 := (fi_eq rfl (show (0 : Int32).toInt = 0 by decide)).mp c9
              have hk_0 : (0 : Int32).toInt = 0 := by decide
              exact kz_X13_law_c1 l D cy ld ad am hD Fa Ga Ra Sa hx hb hr hml hts htl hown hlocks hK v11443 v11445 v1621 v1622 v4 _ _ _ _ _ _ (by omega) (by omega) (by omega) (by omega) (by omega) (by omega) (by omega) (by omega) (by omega) (by omega) hM hS hIF hIG hIR hFF hGG hRR hrel hf2 hf3 hf54 hf56 hf11442 hf11444 hCL _ (lv_sub hl [0] rfl)
            · have hc11446 : ¬ (v11443.toInt = 0) := fun h9 => c9 ((fi_eq rfl (show (0 : Int32).toInt = 0 by decide)).mpr h9)
              refine lv_aload_n hx hb dX13_law_75 rfl (lv_at hl 0 rfl) ?_
              refine lv_bipush (v := (-6)) hx hb dX13_law_76 (by decide) ?_
              have hk_m6 : ((-6) : Int32).toInt = (-6) := by decide
              refine mz_Vi (As := [.int (-6)]) (rest := []) ⟨hx, hb, hml, hown, hts⟩ hK hM hS (k_X13_tell l D cy ld ad am hD _ _ _ _ (-6) hIF hIG hIR (by omega) (by omega)) ⟨callB_of 1 hts (wl_in mw_296) rfl rfl rfl (htl _ mw_5) (htl _ mw_293) hd_yX13_tell ⟨(Nat.le_of_ble_eq_true rfl), (Nat.le_of_ble_eq_true rfl)⟩, htl _ mw_294, htl _ mw_295⟩ rfl hl.1 rfl (Nat.le_of_ble_eq_true rfl) dX13_law_78 ⟨(Nat.le_of_ble_eq_true rfl), (Nat.le_of_ble_eq_true rfl)⟩ (fun v12505 H locs F G R S hpo hM hS => ?_)
              obtain ⟨hIF, hIG, hIR, hfr9, hrr9, hgr9, hpo12506⟩ := hpo
              have hq_v12505 := tk_rng v12505
              have hFF := mz_fr (K := [0, 1, 13, 14, 15, 16, 18, 19, 20, 21, 23, 26, 29, 30]) (Fa := Fa) hfr9 hFF (by decide)
              have hRR := mz_fr (K := [2, 3, 22, 24, 25, 27, 28]) (Fa := Ra) hrr9 hRR (by decide)
              have hGG := mz_fr (K := [17]) (Fa := Ga) hgr9 hGG (by decide)
              have hrel : rK3 (Ra 3) (R 3) := hrel.trans (rK3.refl (hrr9 3 (by decide)))
              have hf2 := (hfr9 0 (by decide)).trans hf2
              have hf3 : R 3 4 = _ := (congrFun (hrr9 3 (by decide)) 4).trans hf3
              have hf54 := (hfr9 23 (by decide)).trans hf54
              have hf56 := (hfr9 21 (by decide)).trans hf56
              have hf11442 := (hfr9 19 (by decide)).trans hf11442
              have hf11444 := (hfr9 13 (by decide)).trans hf11444
              exact mz_iret (v := v12505) hx hb hr rfl hlocks ⟨hIF, hIG, hIR, hFF, hRR, hGG, hrel, (by rw [hf11444]; omega), (by omega), (by omega)⟩ hM hS dX13_law_81
          · have hc11438 : ¬ (v11431.toInt = 0) := fun h9 => c9 ((fi_eq rfl (show (0 : Int32).toInt = 0 by decide)).mpr h9)
            have hwk_12508 : v1618.toInt + (-3) = 0 := by omega
            have hwk_12510 : 0 ≤ (-1) * v1616.toInt + v1617.toInt + (-1) := by omega
            refine lv_aload_n hx hb dX13_law_53 rfl (lv_at hl 0 rfl) ?_
            refine mz_Vv (As := []) (rest := []) ⟨hx, hb, hml, hown, hts⟩ hK hM hS (k_X13_next l D cy ld ad am hD _ _ _ _ v1617 v10 hIF hIG hIR hf46 hf6 (by omega)) ⟨callB_of 0 hts (wl_in mw_685) rfl rfl rfl (htl _ mw_5) (htl _ mw_682) hd_yX13_next ⟨(Nat.le_of_ble_eq_true rfl), (Nat.le_of_ble_eq_true rfl)⟩, htl _ mw_683, htl _ mw_684⟩ rfl hl.1 rfl (Nat.le_of_ble_eq_true rfl) dX13_law_54 ⟨(Nat.le_of_ble_eq_true rfl), (Nat.le_of_ble_eq_true rfl)⟩ (fun H locs F G R S hpo hM hS => ?_)
            obtain ⟨hIF, hIG, hIR, hfr9, hrr9, hgr9, hpo12511, hpo12512, hpo12513, hpo12514, hpo12515⟩ := hpo
            have hFF := mz_fr (K := [0, 1, 13, 14, 15, 16, 18, 19, 20, 21, 23, 26, 29, 30]) (Fa := Fa) hfr9 hFF (by decide)
            have hRR := mz_fr (K := [2, 3, 22, 24, 25, 27, 28]) (Fa := Ra) hrr9 hRR (by decide)
            have hGG := mz_fr (K := [17]) (Fa := Ga) hgr9 hGG (by decide)
            have hrel : rK3 (Ra 3) (R 3) := hrel.trans (rK3.refl (hrr9 3 (by decide)))
            have hf2 := (hfr9 0 (by decide)).trans hf2
            have hf3 : R 3 4 = _ := (congrFun (hrr9 3 (by decide)) 4).trans hf3
            have hf6 := (hfr9 13 (by decide)).trans hf6
            have hf52 := (hfr9 19 (by decide)).trans hf52
            have hf54 := (hfr9 23 (by decide)).trans hf54
            have hf56 := (hfr9 21 (by decide)).trans hf56
            obtain ⟨v12518, hf12517⟩ : ∃ z : Int32, F 14 = z := ⟨_, rfl⟩
            have hq_v12518 := tk_rng v12518
            rw [hf12517] at hpo12511 hpo12512 hpo12514 hpo12515
            have hr_v12518 : 0 ≤ v12518.toInt ∧ v12518.toInt ≤ 400 := hIF.at hf12517
            obtain ⟨v12520, hf12519⟩ : ∃ z : Int32, F 15 = z := ⟨_, rfl⟩
            have hq_v12520 := tk_rng v12520
            rw [hf12519] at hpo12512 hpo12513 hpo12514 hpo12515
            have hr_v12520 : 0 ≤ v12520.toInt ∧ v12520.toInt ≤ 400 := hIF.at hf12519
            obtain ⟨v12522, hf12521⟩ : ∃ z : Int32, F 16 = z := ⟨_, rfl⟩
            have hq_v12522 := tk_rng v12522
            rw [hf12521] at hpo12514 hpo12515
            have hr_v12522 : 0 ≤ v12522.toInt ∧ v12522.toInt ≤ 3 := hIF.at hf12521
            obtain ⟨w12524, hf12523⟩ : ∃ z : Int64, G 17 = z := ⟨_, rfl⟩
            have hq_w12524 := tk_rngL w12524
            rw [hf12523] at hpo12515
            replace hCL : (F 19).toInt = 0 → CLS 8 [3, 5] (R 24) (R 25) (R 22) (F 23).toInt (F 21).toInt := by rw [hfr9 19 (by decide), hfr9 23 (by decide), hfr9 21 (by decide), hrr9 24 (by decide), hrr9 25 (by decide), hrr9 22 (by decide)]; exact hCL
            refine lv_aload_n hx hb dX13_law_57 rfl (lv_at hl 0 rfl) ?_
            refine mz_Vv (As := []) (rest := []) ⟨hx, hb, hml, hown, hts⟩ hK hM hS (k_X13_readLaw l D cy ld ad am hD _ _ _ _ v12518 v12520 v12522 v10 w12524 v1620 v1621 v1622 hIF hIG hIR hf12517 hf12519 hf12521 hf6 hf12523 hf52 hf54 hf56 (by omega) (by omega) (by omega) (by omega) (by omega) (by omega) (by have h9 := hCL (by rw [hf52]; omega); rw [hf54, hf56] at h9; exact h9)) ⟨callB_of 0 hts (wl_in mw_704) rfl rfl rfl (htl _ mw_5) (htl _ mw_701) hd_yX13_readLaw ⟨(Nat.le_of_ble_eq_true rfl), (Nat.le_of_ble_eq_true rfl)⟩, htl _ mw_702, htl _ mw_703⟩ rfl hl.1 rfl (Nat.le_of_ble_eq_true rfl) dX13_law_58 ⟨(Nat.le_of_ble_eq_true rfl), (Nat.le_of_ble_eq_true rfl)⟩ (fun H locs F G R S hpo hM hS => ?_)
            obtain ⟨hIF, hIG, hIR, hfr9, hrr9, hgr9, hpo12525, hpo12526, hpo12527, hpo12528, hpo12529, hpo12530, hpo12531, hpo12532, hpo12533, hx12534⟩ := hpo
            have hFF := mz_fr (K := [0, 1, 13, 14, 15, 16, 18, 19, 20, 21, 23, 26, 29, 30]) (Fa := Fa) hfr9 hFF (by decide)
            have hRR := mz_fr (K := [2, 3, 22, 24, 25, 27, 28]) (Fa := Ra) hrr9 hRR (by decide)
            have hGG := mz_fr (K := [17]) (Fa := Ga) hgr9 hGG (by decide)
            have hrel : rK3 (Ra 3) (R 3) := hrel.trans (rK3.refl (hrr9 3 (by decide)))
            have hf2 := (hfr9 0 (by decide)).trans hf2
            have hf3 : R 3 4 = _ := (congrFun (hrr9 3 (by decide)) 4).trans hf3
            have hf6 := (hfr9 13 (by decide)).trans hf6
            obtain ⟨v12537, hf12536⟩ : ∃ z : Int32, F 14 = z := ⟨_, rfl⟩
            have hq_v12537 := tk_rng v12537
            rw [hf12536] at hpo12525 hpo12527 hpo12528 hpo12529 hpo12531 hpo12533
            have hr_v12537 : 0 ≤ v12537.toInt ∧ v12537.toInt ≤ 400 := hIF.at hf12536
            obtain ⟨v12539, hf12538⟩ : ∃ z : Int32, F 15 = z := ⟨_, rfl⟩
            have hq_v12539 := tk_rng v12539
            rw [hf12538] at hpo12525 hpo12526 hpo12527 hpo12528
            have hr_v12539 : 0 ≤ v12539.toInt ∧ v12539.toInt ≤ 400 := hIF.at hf12538
            obtain ⟨v12541, hf12540⟩ : ∃ z : Int32, F 16 = z := ⟨_, rfl⟩
            have hq_v12541 := tk_rng v12541
            rw [hf12540] at hpo12527 hpo12528
            have hr_v12541 : 0 ≤ v12541.toInt ∧ v12541.toInt ≤ 3 := hIF.at hf12540
            obtain ⟨w12543, hf12542⟩ : ∃ z : Int64, G 17 = z := ⟨_, rfl⟩
            have hq_w12543 := tk_rngL w12543
            rw [hf12542] at hpo12528
            obtain ⟨v12545, hf12544⟩ : ∃ z : Int32, F 19 = z := ⟨_, rfl⟩
            have hq_v12545 := tk_rng v12545
            rw [hf12544] at hpo12532 hpo12533
            have hr_v12545 : 0 ≤ v12545.toInt ∧ v12545.toInt ≤ 1 := hIF.at hf12544
            obtain ⟨v12547, hf12546⟩ : ∃ z : Int32, F 23 = z := ⟨_, rfl⟩
            have hq_v12547 := tk_rng v12547
            rw [hf12546] at hpo12530 hpo12531
            have hr_v12547 : 0 ≤ v12547.toInt ∧ v12547.toInt ≤ 400 := hIF.at hf12546
            obtain ⟨v12549, hf12548⟩ : ∃ z : Int32, F 21 = z := ⟨_, rfl⟩
            have hq_v12549 := tk_rng v12549
            have hr_v12549 : 0 ≤ v12549.toInt ∧ v12549.toInt ≤ 12 := hIF.at hf12548
            replace hCL := hx12534
            clear hx12534 hc0_l11418 hc1_l11418 hpo12514 hpo12515
            refine lv_goto (tgt := 37) hx hb dX13_law_61 (by decide) ?_
            exact ih_l11418 v12537 v12539 v12541 w12543 v12545 v12547 v12549 _ _ _ _ _ _ (by omega) (by omega) (by omega) (by omega) (by omega) (by omega) (by omega) (by omega) (by omega) (by omega) (by omega) (by omega) hM hS hIF hIG hIR hFF hGG hRR hrel hf2 hf3 hf6 hf12536 hf12538 hf12540 hf12542 hf12544 hf12546 hf12548 (by omega) (by omega) hCL (mz_me.lt hm_l11418 (by omega) (by decide) (by decide) (by omega) (by omega)) _ (lv_sub hl [0] rfl)
    exact hl11418 2011 v45 v47 v49 w51 v53 v55 v57 _ _ _ _ _ _ (by omega) (by omega) (by omega) (by omega) (by omega) (by omega) (by omega) (by omega) (by omega) (by omega) (by omega) (by omega) hM hS hIF hIG hIR hFF hGG hRR hrel hf2 hf3 hf6 hf44 hf46 hf48 hf50 hf52 hf54 hf56 (by omega) (by omega) hCL (mz_me.le (by omega) (by decide)) _ (lv_sub hl [0] rfl)
  · have hc5 : v4.toInt = 6 := (fi_eq rfl (show (6 : Int32).toInt = 6 by decide)).mp c9
    refine lv_aload_n hx hb dX13_law_16 rfl (lv_at hl 0 rfl) ?_
    refine lv_iconst (v := 0) hx hb dX13_law_17 (by decide) ?_
    have hk_0 : (0 : Int32).toInt = 0 := by decide
    have hk_0 : (0 : Int32).toInt = 0 := by decide
    refine mz_putI (ty := .int) (x := 0) hx hb htl hown hK hD hM hS 13 (Nat.le_of_ble_eq_true rfl) rfl (htl _ mw_431) (fun _ h9 => h9) rfl (tyX13_ok 13 (by decide)) rfl rfl dX13_law_18 (fun H locs F hM hS hf9 hj9 => ?_)
    have hIF := hIF.put hf9 hj9 (show 0 ≤ (0 : Int32).toInt by omega) (show (0 : Int32).toInt ≤ 400 by omega) (by decide)
    have hFF := mz_frp (K := [0, 1, 13, 14, 15, 16, 18, 19, 20, 21, 23, 26, 29, 30]) (Fa := Fa) hj9 hFF (by decide)
    have hf2 := (hj9 0 (by decide)).trans hf2
    have hf12551 := hf9
    refine lv_aload_n hx hb dX13_law_21 rfl (lv_at hl 0 rfl) ?_
    refine lv_bipush (v := (-5)) hx hb dX13_law_22 (by decide) ?_
    have hk_m5 : ((-5) : Int32).toInt = (-5) := by decide
    refine mz_Vi (As := [.int (-5)]) (rest := []) ⟨hx, hb, hml, hown, hts⟩ hK hM hS (k_X13_tell l D cy ld ad am hD _ _ _ _ (-5) hIF hIG hIR (by omega) (by omega)) ⟨callB_of 1 hts (wl_in mw_296) rfl rfl rfl (htl _ mw_5) (htl _ mw_293) hd_yX13_tell ⟨(Nat.le_of_ble_eq_true rfl), (Nat.le_of_ble_eq_true rfl)⟩, htl _ mw_294, htl _ mw_295⟩ rfl hl.1 rfl (Nat.le_of_ble_eq_true rfl) dX13_law_24 ⟨(Nat.le_of_ble_eq_true rfl), (Nat.le_of_ble_eq_true rfl)⟩ (fun v12552 H locs F G R S hpo hM hS => ?_)
    obtain ⟨hIF, hIG, hIR, hfr9, hrr9, hgr9, hpo12553⟩ := hpo
    have hq_v12552 := tk_rng v12552
    have hFF := mz_fr (K := [0, 1, 13, 14, 15, 16, 18, 19, 20, 21, 23, 26, 29, 30]) (Fa := Fa) hfr9 hFF (by decide)
    have hRR := mz_fr (K := [2, 3, 22, 24, 25, 27, 28]) (Fa := Ra) hrr9 (fun _ _ => rfl) (by decide)
    have hGG := mz_fr (K := [17]) (Fa := Ga) hgr9 (fun _ _ => rfl) (by decide)
    have hrel : rK3 (Ra 3) (R 3) := (rK3.refl rfl).trans (rK3.refl (hrr9 3 (by decide)))
    have hf2 := (hfr9 0 (by decide)).trans hf2
    have hf3 : R 3 4 = _ := (congrFun (hrr9 3 (by decide)) 4).trans hf3
    have hf12551 := (hfr9 13 (by decide)).trans hf12551
    have hk_0 : (0 : Int32).toInt = 0 := by decide
    exact mz_iret (v := v12552) hx hb hr rfl hlocks ⟨hIF, hIG, hIR, hFF, hRR, hGG, hrel, (by rw [hf12551]; omega), (by omega), (by omega)⟩ hM hS dX13_law_27
