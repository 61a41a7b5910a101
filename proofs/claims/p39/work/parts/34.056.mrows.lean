theorem hd_yX13_readPart : yX13_readPart.cls ≠ "java/lang/invoke/MethodHandle" ∧ yX13_readPart.cls ≠ "java/lang/invoke/VarHandle" ∧ (parseMethodDescriptor yX13_readPart.desc).map (fun d => d.parameters.length) = some 0 := by decide +kernel
theorem dX13_readPlain_0 : decode cX13_readPlain 0 = .ok (.aload_n 0, 1) := by decide +kernel
theorem dX13_readPlain_1 : decode cX13_readPlain 1 = .ok (.ldc2_w 337, 3) := by decide +kernel
theorem dX13_readPlain_4 : decode cX13_readPlain 4 = .ok (.invokevirtual 296, 3) := by decide +kernel
theorem dX13_readPlain_7 : decode cX13_readPlain 7 = .ok (.ifCond .eq 16, 3) := by decide +kernel
theorem dX13_readPlain_23 : decode cX13_readPlain 23 = .ok (.aload_n 0, 1) := by decide +kernel
theorem dX13_readPlain_24 : decode cX13_readPlain 24 = .ok (.bipush 40, 2) := by decide +kernel
theorem dX13_readPlain_26 : decode cX13_readPlain 26 = .ok (.invokevirtual 309, 3) := by decide +kernel
theorem dX13_readPlain_29 : decode cX13_readPlain 29 = .ok (.ifCond .eq 11, 3) := by decide +kernel
theorem dX13_readPlain_40 : decode cX13_readPlain 40 = .ok (.aload_n 0, 1) := by decide +kernel
theorem dX13_readPlain_41 : decode cX13_readPlain 41 = .ok (.invokevirtual 339, 3) := by decide +kernel
theorem dX13_readPlain_44 : decode cX13_readPlain 44 = .ok (.ireturn, 1) := by decide +kernel
theorem dX13_readPlain_32 : decode cX13_readPlain 32 = .ok (.aload_n 0, 1) := by decide +kernel
theorem dX13_readPlain_33 : decode cX13_readPlain 33 = .ok (.bipush 31, 2) := by decide +kernel
theorem dX13_readPlain_35 : decode cX13_readPlain 35 = .ok (.invokevirtual 312, 3) := by decide +kernel
theorem dX13_readPlain_38 : decode cX13_readPlain 38 = .ok (.iconst 0, 1) := by decide +kernel
theorem dX13_readPlain_39 : decode cX13_readPlain 39 = .ok (.ireturn, 1) := by decide +kernel
theorem dX13_readPlain_10 : decode cX13_readPlain 10 = .ok (.aload_n 0, 1) := by decide +kernel
theorem dX13_readPlain_11 : decode cX13_readPlain 11 = .ok (.bipush 28, 2) := by decide +kernel
theorem dX13_readPlain_13 : decode cX13_readPlain 13 = .ok (.iconst 0, 1) := by decide +kernel
theorem dX13_readPlain_14 : decode cX13_readPlain 14 = .ok (.invokevirtual 303, 3) := by decide +kernel
theorem dX13_readPlain_17 : decode cX13_readPlain 17 = .ok (.aload_n 0, 1) := by decide +kernel
theorem dX13_readPlain_18 : decode cX13_readPlain 18 = .ok (.invokevirtual 240, 3) := by decide +kernel
theorem dX13_readPlain_21 : decode cX13_readPlain 21 = .ok (.iconst 0, 1) := by decide +kernel
theorem dX13_readPlain_22 : decode cX13_readPlain 22 = .ok (.ireturn, 1) := by decide +kernel
set_option maxHeartbeats 4000000 in
set_option maxRecDepth 100000 in
theorem k_X13_readPlain (l : Launch) (D : va_G) (cy : Nat → ClassId) (ld ad : Nat → Nat) (am : Nat) (hD : mz_D ad am) (Fa : Nat → Int32) (Ga : Nat → Int64) (Ra : Nat → Nat → Int32) (Sa : Nat → Nat → Int64) (gf : Int32) (gt : Int32) (gs : Int32) (gp : Int32) (gw : Int64) (gb : Int32) (gc : Int32) (gd : Int32) (zs : Nat) (hIF : mz_IF false Fa) (hIG : mz_IG Ga) (hIR : mz_IR [] true Ra) (hg_0 : Fa 14 = gf) (hg_1 : Fa 15 = gt) (hg_2 : Fa 16 = gs) (hg_3 : Fa 13 = gp) (hg_4 : Ga 17 = gw) (hg_5 : Fa 19 = gb) (hg_6 : Fa 23 = gc) (hg_7 : Fa 29 = gd) (hp_0 : 0 ≤ (-1) * gf.toInt + gt.toInt) (hp_1 : 0 ≤ gp.toInt + (-1) * gt.toInt) (hp_2 : (1 ≤ gs.toInt → 0 ≤ (-1) * gf.toInt + gt.toInt + (-1))) (hp_3 : (27 ≤ gw.toInt → 1 ≤ gs.toInt → gs.toInt ≤ 1 → 0 ≤ (-1) * gf.toInt + gt.toInt + (-2))) (hp_4 : 0 ≤ (-1) * gc.toInt + (-1) * gd.toInt + gf.toInt) (hp_5 : gb.toInt ≤ 0) (hx_0 : PT (Ra 24) (Ra 25) (Ra 27) (Ra 28) zs gc.toInt.toNat gd.toInt.toNat 0) : Met l yX13_readPlain (wl yX13_readPlain cX13_readPlain 1 (some .int)) ({ frames := 8, cells := 0, slots := 0, locals := 490 }) (mz_p D cy ld ad am Fa Ga Ra Sa [.ref am]) (mz_i D cy ad am (fun r F G R S => mz_IF false F ∧ mz_IG G ∧ mz_IR [] true R ∧ (∀ k : Nat, k ∉ ([14, 15, 16, 18, 19, 23, 26, 29, 30] : List Nat) → F k = Fa k) ∧ (∀ k : Nat, k ∉ ([24, 25, 27, 28] : List Nat) → R k = Ra k) ∧ (∀ k : Nat, k ∉ ([17] : List Nat) → G k = Ga k) ∧ 0 ≤ (-1) * (F 14).toInt + (F 15).toInt ∧ 0 ≤ gp.toInt + (-1) * (F 15).toInt ∧ (1 ≤ (F 16).toInt → 0 ≤ (-1) * (F 14).toInt + (F 15).toInt + (-1)) ∧ (27 ≤ (G 17).toInt → 1 ≤ (F 16).toInt → (F 16).toInt ≤ 1 → 0 ≤ (-1) * (F 14).toInt + (F 15).toInt + (-2)) ∧ 0 ≤ (-1) * gf.toInt + (F 14).toInt ∧ 0 ≤ (-1) * (F 23).toInt + (-1) * (F 29).toInt + (F 14).toInt ∧ 0 ≤ (-1) * gc.toInt + (F 23).toInt ∧ ((F 19).toInt ≤ 0 → 0 ≤ (-1) * gf.toInt + (F 14).toInt + (-1)) ∧ 0 ≤ r.toInt ∧ r.toInt ≤ 3 ∧ ((F 19).toInt = 0 → PT (R 24) (R 25) (R 27) (R 28) zs (F 23).toInt.toNat (F 29).toInt.toNat r.toInt ∧ low zs (Ra 24) (R 24) ∧ low zs (Ra 25) (R 25)))) 0 0 (mz_W ad am) := by
  refine mz_met (y := yX13_readPlain) (cc := cX13_readPlain) (maxL := 1) (ret := (some .int)) (av := [.ref am]) _ (by decide) (Nat.le_of_ble_eq_true rfl) ?_
  intro p e s m args below meth c hx hb hr hml hts htl hown hlocks hK H locs hM hS ls hl
  have hown : s.vm.findClass RX13 = some m.cls := hown
  have hl : lv_has ls 1 [(0, .ref am)] := hl
  have hq_gf := tk_rng gf
  have hq_gt := tk_rng gt
  have hq_gs := tk_rng gs
  have hq_gp := tk_rng gp
  have hq_gw := tk_rngL gw
  have hq_gb := tk_rng gb
  have hq_gc := tk_rng gc
  have hq_gd := tk_rng gd
  have hr_gf : 0 ≤ gf.toInt ∧ gf.toInt ≤ 400 := hIF.at hg_0
  have hr_gt : 0 ≤ gt.toInt ∧ gt.toInt ≤ 400 := hIF.at hg_1
  have hr_gs : 0 ≤ gs.toInt ∧ gs.toInt ≤ 3 := hIF.at hg_2
  have hr_gp : 0 ≤ gp.toInt ∧ gp.toInt ≤ 400 := hIF.at hg_3
  have hr_gb : 0 ≤ gb.toInt ∧ gb.toInt ≤ 1 := hIF.at hg_5
  have hr_gc : 0 ≤ gc.toInt ∧ gc.toInt ≤ 400 := hIF.at hg_6
  have hr_gd : 0 ≤ gd.toInt ∧ gd.toInt ≤ 400 := hIF.at hg_7
  have hPI : PI (Ra 24) (Ra 25) (Ra 27) (Ra 28) zs gc.toInt.toNat gd.toInt.toNat 0 := hx_0.p (by decide)
  have hLo := And.intro (low.refl zs (Ra 24)) (low.refl zs (Ra 25))
  have hSq : nSq (Ra 27) gd.toInt.toNat := hx_0.2.1 (by decide)
  refine lv_aload_n hx hb dX13_readPlain_0 rfl (lv_at hl 0 rfl) ?_
  refine lv_ldc2 hx hb hown (htl _ mw_724) dX13_readPlain_1 ?_
  have hk_14836 : (14836 : Int64).toInt = 14836 := by decide
  refine mz_Vj (As := [.long 14836]) (rest := []) ⟨hx, hb, hml, hown, hts⟩ hK hM hS (k_X13_isWord l D cy ld ad am hD _ _ _ _ 14836 gs gw hIF hIG hIR hg_2 hg_4) ⟨callB_of 1 hts (wl_in mw_709) rfl rfl rfl (htl _ mw_5) (htl _ mw_706) hd_yX13_isWord ⟨(Nat.le_of_ble_eq_true rfl), (Nat.le_of_ble_eq_true rfl)⟩, htl _ mw_707, htl _ mw_708⟩ rfl hl.1 rfl (Nat.le_of_ble_eq_true rfl) dX13_readPlain_4 ⟨(Nat.le_of_ble_eq_true rfl), (Nat.le_of_ble_eq_true rfl)⟩ (fun v1 H locs hpo hM hS => ?_)
  obtain ⟨hpo2, hpo3, hpo4, hpo5, hpo6⟩ := hpo
  have hq_v1 := tk_rng v1
  refine lv_if_eq (tgt := 23) hx hb dX13_readPlain_7 (by decide) (fun c9 => ?_) (fun c9 => ?_)
  · have hc8 : v1.toInt = 0 := (fi_eq rfl (show (0 : Int32).toInt = 0 by decide)).mp c9
    refine lv_aload_n hx hb dX13_readPlain_23 rfl (lv_at hl 0 rfl) ?_
    refine lv_bipush (v := 40) hx hb dX13_readPlain_24 (by decide) ?_
    have hk_40 : (40 : Int32).toInt = 40 := by decide
    refine mz_Vj (As := [.int 40]) (rest := []) ⟨hx, hb, hml, hown, hts⟩ hK hM hS (k_X13_isSign l D cy ld ad am hD _ _ _ _ 40 gs hIF hIG hIR hg_2) ⟨callB_of 1 hts (wl_in mw_732) rfl rfl rfl (htl _ mw_5) (htl _ mw_729) hd_yX13_isSign ⟨(Nat.le_of_ble_eq_true rfl), (Nat.le_of_ble_eq_true rfl)⟩, htl _ mw_730, htl _ mw_731⟩ rfl hl.1 rfl (Nat.le_of_ble_eq_true rfl) dX13_readPlain_26 ⟨(Nat.le_of_ble_eq_true rfl), (Nat.le_of_ble_eq_true rfl)⟩ (fun v9 H locs hpo hM hS => ?_)
    obtain ⟨hpo10, hpo11, hpo12, hpo13, hpo14⟩ := hpo
    have hq_v9 := tk_rng v9
    refine lv_if_eq (tgt := 40) hx hb dX13_readPlain_29 (by decide) (fun c9 => ?_) (fun c9 => ?_)
    · have hc16 : v9.toInt = 0 := (fi_eq rfl (show (0 : Int32).toInt = 0 by decide)).mp c9
      refine lv_aload_n hx hb dX13_readPlain_40 rfl (lv_at hl 0 rfl) ?_
      refine mz_Vi (As := []) (rest := []) ⟨hx, hb, hml, hown, hts⟩ hK hM hS (k_X13_readPart l D cy ld ad am hD _ _ _ _ gf gt gs gp gw gb gc gd zs hIF hIG hIR hg_0 hg_1 hg_2 hg_3 hg_4 hg_5 hg_6 hg_7 (by omega) (by omega) (by omega) (by omega) (by omega) (by omega) hPI) ⟨callB_of 0 hts (wl_in mw_740) rfl rfl rfl (htl _ mw_5) (htl _ mw_737) hd_yX13_readPart ⟨(Nat.le_of_ble_eq_true rfl), (Nat.le_of_ble_eq_true rfl)⟩, htl _ mw_738, htl _ mw_739⟩ rfl hl.1 rfl (Nat.le_of_ble_eq_true rfl) dX13_readPlain_41 ⟨(Nat.le_of_ble_eq_true rfl), (Nat.le_of_ble_eq_true rfl)⟩ (fun v17 H locs F G R S hpo hM hS => ?_)
      obtain ⟨hIF, hIG, hIR, hfr9, hrr9, hgr9, hpo18, hpo19, hpo20, hpo21, hpo22, hpo23, hpo24, hpo25, hpo26, hpo27, hx28⟩ := hpo
      have hq_v17 := tk_rng v17
      have hFF := mz_fr (K := [14, 15, 16, 18, 19, 23, 26, 29, 30]) (Fa := Fa) hfr9 (fun _ _ => rfl) (by decide)
      have hRR := mz_fr (K := [24, 25, 27, 28]) (Fa := Ra) hrr9 (fun _ _ => rfl) (by decide)
      have hGG := mz_fr (K := [17]) (Fa := Ga) hgr9 (fun _ _ => rfl) (by decide)
      have hg_3 := (hfr9 13 (by decide)).trans hg_3
      obtain ⟨v31, hf30⟩ : ∃ z : Int32, F 14 = z := ⟨_, rfl⟩
      have hq_v31 := tk_rng v31
      rw [hf30] at hpo18 hpo20 hpo21 hpo22 hpo23 hpo25
      have hr_v31 : 0 ≤ v31.toInt ∧ v31.toInt ≤ 400 := hIF.at hf30
      obtain ⟨v33, hf32⟩ : ∃ z : Int32, F 15 = z := ⟨_, rfl⟩
      have hq_v33 := tk_rng v33
      rw [hf32] at hpo18 hpo19 hpo20 hpo21
      have hr_v33 : 0 ≤ v33.toInt ∧ v33.toInt ≤ 400 := hIF.at hf32
      obtain ⟨v35, hf34⟩ : ∃ z : Int32, F 16 = z := ⟨_, rfl⟩
      have hq_v35 := tk_rng v35
      rw [hf34] at hpo20 hpo21
      have hr_v35 : 0 ≤ v35.toInt ∧ v35.toInt ≤ 3 := hIF.at hf34
      obtain ⟨w37, hf36⟩ : ∃ z : Int64, G 17 = z := ⟨_, rfl⟩
      have hq_w37 := tk_rngL w37
      rw [hf36] at hpo21
      obtain ⟨v39, hf38⟩ : ∃ z : Int32, F 19 = z := ⟨_, rfl⟩
      have hq_v39 := tk_rng v39
      rw [hf38] at hpo25
      have hr_v39 : 0 ≤ v39.toInt ∧ v39.toInt ≤ 1 := hIF.at hf38
      obtain ⟨v41, hf40⟩ : ∃ z : Int32, F 23 = z := ⟨_, rfl⟩
      have hq_v41 := tk_rng v41
      rw [hf40] at hpo23 hpo24
      have hr_v41 : 0 ≤ v41.toInt ∧ v41.toInt ≤ 400 := hIF.at hf40
      obtain ⟨v43, hf42⟩ : ∃ z : Int32, F 29 = z := ⟨_, rfl⟩
      have hq_v43 := tk_rng v43
      rw [hf42] at hpo23
      have hr_v43 : 0 ≤ v43.toInt ∧ v43.toInt ≤ 400 := hIF.at hf42
      exact mz_iret (v := v17) hx hb hr rfl hlocks ⟨hIF, hIG, hIR, hFF, hRR, hGG, (by rw [hf30, hf32]; omega), (by rw [hf32]; omega), (by rw [hf30, hf32, hf34]; omega), (by rw [hf30, hf32, hf34, hf36]; omega), (by rw [hf30]; omega), (by rw [hf30, hf40, hf42]; omega), (by rw [hf40]; omega), (by rw [hf30, hf38]; omega), (by omega), (by omega), (fun h9 => hx28 h9)⟩ hM hS dX13_readPlain_44
    · have hc16 : ¬ (v9.toInt = 0) := fun h9 => c9 ((fi_eq rfl (show (0 : Int32).toInt = 0 by decide)).mpr h9)
      refine lv_aload_n hx hb dX13_readPlain_32 rfl (lv_at hl 0 rfl) ?_
      refine lv_bipush (v := 31) hx hb dX13_readPlain_33 (by decide) ?_
      have hk_31 : (31 : Int32).toInt = 31 := by decide
      refine mz_Vv (As := [.int 31]) (rest := []) ⟨hx, hb, hml, hown, hts⟩ hK hM hS (k_X13_openBracket_31 l D cy ld ad am hD _ _ _ _ gf gt gs gp gw gb gc gd zs hIF hIG hIR hg_0 hg_1 hg_2 hg_3 hg_4 hg_5 hg_6 hg_7 (by omega) (by omega) (by omega) (by omega) (by omega) (by omega) (by omega) (PT.mk hPI (by decide) (fun _ => hSq) (fun h9 => absurd h9 (by decide)) rfl rfl rfl rfl rfl rfl)) ⟨callB_of 1 hts (wl_in mw_736) rfl rfl rfl (htl _ mw_5) (htl _ mw_733) hd_yX13_openBracket ⟨(Nat.le_of_ble_eq_true rfl), (Nat.le_of_ble_eq_true rfl)⟩, htl _ mw_734, htl _ mw_735⟩ rfl hl.1 rfl (Nat.le_of_ble_eq_true rfl) dX13_readPlain_35 ⟨(Nat.le_of_ble_eq_true rfl), (Nat.le_of_ble_eq_true rfl)⟩ (fun H locs F G R S hpo hM hS => ?_)
      obtain ⟨hIF, hIG, hIR, hfr9, hrr9, hgr9, hpo44, hpo45, hpo46, hpo47, hpo48, hpo49, hpo50, hpo51, hx52⟩ := hpo
      have hFF := mz_fr (K := [14, 15, 16, 18, 19, 23, 26, 29, 30]) (Fa := Fa) hfr9 (fun _ _ => rfl) (by decide)
      have hRR := mz_fr (K := [24, 25, 27, 28]) (Fa := Ra) hrr9 (fun _ _ => rfl) (by decide)
      have hGG := mz_fr (K := [17]) (Fa := Ga) hgr9 (fun _ _ => rfl) (by decide)
      have hg_3 := (hfr9 13 (by decide)).trans hg_3
      have hg_6 := (hfr9 23 (by decide)).trans hg_6
      obtain ⟨v55, hf54⟩ : ∃ z : Int32, F 14 = z := ⟨_, rfl⟩
      have hq_v55 := tk_rng v55
      rw [hf54] at hpo44 hpo46 hpo47 hpo48 hpo49 hpo51
      have hr_v55 : 0 ≤ v55.toInt ∧ v55.toInt ≤ 400 := hIF.at hf54
      obtain ⟨v57, hf56⟩ : ∃ z : Int32, F 15 = z := ⟨_, rfl⟩
      have hq_v57 := tk_rng v57
      rw [hf56] at hpo44 hpo45 hpo46 hpo47
      have hr_v57 : 0 ≤ v57.toInt ∧ v57.toInt ≤ 400 := hIF.at hf56
      obtain ⟨v59, hf58⟩ : ∃ z : Int32, F 16 = z := ⟨_, rfl⟩
      have hq_v59 := tk_rng v59
      rw [hf58] at hpo46 hpo47
      have hr_v59 : 0 ≤ v59.toInt ∧ v59.toInt ≤ 3 := hIF.at hf58
      obtain ⟨w61, hf60⟩ : ∃ z : Int64, G 17 = z := ⟨_, rfl⟩
      have hq_w61 := tk_rngL w61
      rw [hf60] at hpo47
      obtain ⟨v63, hf62⟩ : ∃ z : Int32, F 19 = z := ⟨_, rfl⟩
      have hq_v63 := tk_rng v63
      rw [hf62] at hpo51
      have hr_v63 : 0 ≤ v63.toInt ∧ v63.toInt ≤ 1 := hIF.at hf62
      rw [hg_6] at hpo49 hpo50
      have hr_gc : 0 ≤ gc.toInt ∧ gc.toInt ≤ 400 := hIF.at hg_6
      obtain ⟨v65, hf64⟩ : ∃ z : Int32, F 29 = z := ⟨_, rfl⟩
      have hq_v65 := tk_rng v65
      rw [hf64] at hpo49
      have hr_v65 : 0 ≤ v65.toInt ∧ v65.toInt ≤ 400 := hIF.at hf64
      refine lv_iconst (v := 0) hx hb dX13_readPlain_38 (by decide) ?_
      have hk_0 : (0 : Int32).toInt = 0 := by decide
      exact mz_iret (v := 0) hx hb hr rfl hlocks ⟨hIF, hIG, hIR, hFF, hRR, hGG, (by rw [hf54, hf56]; omega), (by rw [hf56]; omega), (by rw [hf54, hf56, hf58]; omega), (by rw [hf54, hf56, hf58, hf60]; omega), (by rw [hf54]; omega), (by rw [hf54, hg_6, hf64]; omega), (by rw [hg_6]; omega), (by rw [hf54, hf62]; omega), (by omega), (by omega), (fun h9 => hx52 h9)⟩ hM hS dX13_readPlain_39
  · have hc8 : ¬ (v1.toInt = 0) := fun h9 => c9 ((fi_eq rfl (show (0 : Int32).toInt = 0 by decide)).mpr h9)
    refine lv_aload_n hx hb dX13_readPlain_10 rfl (lv_at hl 0 rfl) ?_
    refine lv_bipush (v := 28) hx hb dX13_readPlain_11 (by decide) ?_
    refine lv_iconst (v := 0) hx hb dX13_readPlain_13 (by decide) ?_
    have hk_28 : (28 : Int32).toInt = 28 := by decide
    have hk_0 : (0 : Int32).toInt = 0 := by decide
    refine mz_Vv (As := [.int 28, .int 0]) (rest := []) ⟨hx, hb, hml, hown, hts⟩ hK hM hS (k_X13_push l D cy ld ad am hD _ _ _ _ 28 0 gd hIF hIG hIR hg_7 (by omega) (by omega) (by omega)) ⟨callB_of 2 hts (wl_in mw_728) rfl rfl rfl (htl _ mw_5) (htl _ mw_725) hd_yX13_push ⟨(Nat.le_of_ble_eq_true rfl), (Nat.le_of_ble_eq_true rfl)⟩, htl _ mw_726, htl _ mw_727⟩ rfl hl.1 rfl (Nat.le_of_ble_eq_true rfl) dX13_readPlain_14 ⟨(Nat.le_of_ble_eq_true rfl), (Nat.le_of_ble_eq_true rfl)⟩ (fun H locs F G R S hpo hM hS => ?_)
    obtain ⟨hIF, hIG, hIR, hfr9, hrr9, hgr9, hpo66, hx67, hx68⟩ := hpo
    have hFF := mz_fr (K := [14, 15, 16, 18, 19, 23, 26, 29, 30]) (Fa := Fa) hfr9 (fun _ _ => rfl) (by decide)
    have hRR := mz_fr (K := [24, 25, 27, 28]) (Fa := Ra) hrr9 (fun _ _ => rfl) (by decide)
    have hGG := mz_fr (K := [17]) (Fa := Ga) hgr9 (fun _ _ => rfl) (by decide)
    have hg_0 := (hfr9 14 (by decide)).trans hg_0
    have hg_1 := (hfr9 15 (by decide)).trans hg_1
    have hg_2 := (hfr9 16 (by decide)).trans hg_2
    have hg_3 := (hfr9 13 (by decide)).trans hg_3
    have hg_4 := (hgr9 17 (by decide)).trans hg_4
    have hg_5 := (hfr9 19 (by decide)).trans hg_5
    have hg_6 := (hfr9 23 (by decide)).trans hg_6
    obtain ⟨v71, hf70⟩ : ∃ z : Int32, F 29 = z := ⟨_, rfl⟩
    have hq_v71 := tk_rng v71
    rw [hf70] at hpo66
    have hr_v71 : 0 ≤ v71.toInt ∧ v71.toInt ≤ 400 := hIF.at hf70
    have hPI : PI (R 24) (R 25) (R 27) (R 28) zs gc.toInt.toNat v71.toInt.toNat 0 := (PI.push (o := 28) hPI (by decide) (by decide) (by decide) (by decide) (Or.inr (Or.inr hSq)) hx67 hx68).to (hrr9 24 (by decide)) (hrr9 25 (by decide)) rfl rfl rfl (by omega)
    have hLo := And.intro (hLo.1.to (hrr9 24 (by decide))) (hLo.2.to (hrr9 25 (by decide)))
    have hSq : nSq (R 27) v71.toInt.toNat := (hSq.push hx67 (by decide)).to rfl (by omega)
    refine lv_aload_n hx hb dX13_readPlain_17 rfl (lv_at hl 0 rfl) ?_
    refine mz_Vv (As := []) (rest := []) ⟨hx, hb, hml, hown, hts⟩ hK hM hS (k_X13_next l D cy ld ad am hD _ _ _ _ gt gp hIF hIG hIR hg_1 hg_3 (by omega)) ⟨callB_of 0 hts (wl_in mw_685) rfl rfl rfl (htl _ mw_5) (htl _ mw_682) hd_yX13_next ⟨(Nat.le_of_ble_eq_true rfl), (Nat.le_of_ble_eq_true rfl)⟩, htl _ mw_683, htl _ mw_684⟩ rfl hl.1 rfl (Nat.le_of_ble_eq_true rfl) dX13_readPlain_18 ⟨(Nat.le_of_ble_eq_true rfl), (Nat.le_of_ble_eq_true rfl)⟩ (fun H locs F G R S hpo hM hS => ?_)
    obtain ⟨hIF, hIG, hIR, hfr9, hrr9, hgr9, hpo72, hpo73, hpo74, hpo75, hpo76⟩ := hpo
    have hFF := mz_fr (K := [14, 15, 16, 18, 19, 23, 26, 29, 30]) (Fa := Fa) hfr9 hFF (by decide)
    have hRR := mz_fr (K := [24, 25, 27, 28]) (Fa := Ra) hrr9 hRR (by decide)
    have hGG := mz_fr (K := [17]) (Fa := Ga) hgr9 hGG (by decide)
    have hg_3 := (hfr9 13 (by decide)).trans hg_3
    have hg_5 := (hfr9 19 (by decide)).trans hg_5
    have hg_6 := (hfr9 23 (by decide)).trans hg_6
    have hf70 := (hfr9 29 (by decide)).trans hf70
    obtain ⟨v79, hf78⟩ : ∃ z : Int32, F 14 = z := ⟨_, rfl⟩
    have hq_v79 := tk_rng v79
    rw [hf78] at hpo72 hpo73 hpo75 hpo76
    have hr_v79 : 0 ≤ v79.toInt ∧ v79.toInt ≤ 400 := hIF.at hf78
    obtain ⟨v81, hf80⟩ : ∃ z : Int32, F 15 = z := ⟨_, rfl⟩
    have hq_v81 := tk_rng v81
    rw [hf80] at hpo73 hpo74 hpo75 hpo76
    have hr_v81 : 0 ≤ v81.toInt ∧ v81.toInt ≤ 400 := hIF.at hf80
    obtain ⟨v83, hf82⟩ : ∃ z : Int32, F 16 = z := ⟨_, rfl⟩
    have hq_v83 := tk_rng v83
    rw [hf82] at hpo75 hpo76
    have hr_v83 : 0 ≤ v83.toInt ∧ v83.toInt ≤ 3 := hIF.at hf82
    obtain ⟨w85, hf84⟩ : ∃ z : Int64, G 17 = z := ⟨_, rfl⟩
    have hq_w85 := tk_rngL w85
    rw [hf84] at hpo76
    have hPI := hPI.to (hrr9 24 (by decide)) (hrr9 25 (by decide)) (hrr9 27 (by decide)) (hrr9 28 (by decide)) rfl rfl
    have hLo := And.intro (hLo.1.to (hrr9 24 (by decide))) (hLo.2.to (hrr9 25 (by decide)))
    have hSq := hSq.to (hrr9 27 (by decide)) (Nat.le_refl _)
    refine lv_iconst (v := 0) hx hb dX13_readPlain_21 (by decide) ?_
    have hk_0 : (0 : Int32).toInt = 0 := by decide
    exact mz_iret (v := 0) hx hb hr rfl hlocks ⟨hIF, hIG, hIR, hFF, hRR, hGG, (by rw [hf78, hf80]; omega), (by rw [hf80]; omega), (by rw [hf78, hf80, hf82]; omega), (by rw [hf78, hf80, hf82, hf84]; omega), (by rw [hf78]; omega), (by rw [hf78, hg_6, hf70]; omega), (by rw [hg_6]; omega), (by rw [hf78, hg_5]; omega), (by omega), (by omega), (fun _ => ⟨PT.mk hPI (by decide) (fun _ => hSq) (fun h9 => absurd h9 (by decide)) rfl rfl rfl rfl (by rw [hg_6]) (by rw [hf70]), hLo⟩)⟩ hM hS dX13_readPlain_22
