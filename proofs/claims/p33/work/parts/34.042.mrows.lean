theorem hd_yX13_must : yX13_must.cls ≠ "java/lang/invoke/MethodHandle" ∧ yX13_must.cls ≠ "java/lang/invoke/VarHandle" ∧ (parseMethodDescriptor yX13_must.desc).map (fun d => d.parameters.length) = some 1 := by decide +kernel
theorem dX13_number_0 : decode cX13_number 0 = .ok (.aload_n 0, 1) := by decide +kernel
theorem dX13_number_1 : decode cX13_number 1 = .ok (.getfield 246, 3) := by decide +kernel
theorem dX13_number_4 : decode cX13_number 4 = .ok (.l2i, 1) := by decide +kernel
theorem dX13_number_5 : decode cX13_number 5 = .ok (.istore 5, 2) := by decide +kernel
theorem dX13_number_7 : decode cX13_number 7 = .ok (.aload_n 0, 1) := by decide +kernel
theorem dX13_number_8 : decode cX13_number 8 = .ok (.aload_n 0, 1) := by decide +kernel
theorem dX13_number_9 : decode cX13_number 9 = .ok (.getfield 256, 3) := by decide +kernel
theorem dX13_number_12 : decode cX13_number 12 = .ok (.iconst 2, 1) := by decide +kernel
theorem dX13_number_13 : decode cX13_number 13 = .ok (.if_icmp .ne 19, 3) := by decide +kernel
theorem dX13_number_32 : decode cX13_number 32 = .ok (.iconst 0, 1) := by decide +kernel
theorem dX13_number_33 : decode cX13_number 33 = .ok (.invokevirtual 271, 3) := by decide +kernel
theorem dX13_number_36 : decode cX13_number 36 = .ok (.iload 5, 2) := by decide +kernel
theorem dX13_number_38 : decode cX13_number 38 = .ok (.ireturn, 1) := by decide +kernel
theorem dX13_number_16 : decode cX13_number 16 = .ok (.aload_n 0, 1) := by decide +kernel
theorem dX13_number_17 : decode cX13_number 17 = .ok (.getfield 246, 3) := by decide +kernel
theorem dX13_number_20 : decode cX13_number 20 = .ok (.lload_n 1, 1) := by decide +kernel
theorem dX13_number_21 : decode cX13_number 21 = .ok (.lload_n 3, 1) := by decide +kernel
theorem dX13_number_22 : decode cX13_number 22 = .ok (.invokestatic 190, 3) := by decide +kernel
theorem dX13_number_25 : decode cX13_number 25 = .ok (.ifCond .eq 7, 3) := by decide +kernel
theorem dX13_number_28 : decode cX13_number 28 = .ok (.iconst 1, 1) := by decide +kernel
theorem dX13_number_29 : decode cX13_number 29 = .ok (.goto 4, 3) := by decide +kernel
set_option maxHeartbeats 4000000 in
set_option maxRecDepth 100000 in
theorem k_X13_number (l : Launch) (D : va_G) (cy : Nat → ClassId) (ld ad : Nat → Nat) (am : Nat) (hD : mz_D ad am) (Fa : Nat → Int32) (Ga : Nat → Int64) (Ra : Nat → Nat → Int32) (Sa : Nat → Nat → Int64) (p1 : Int64) (p2 : Int64) (gf : Int32) (gt : Int32) (gs : Int32) (gp : Int32) (gw : Int64) (gb : Int32) (hIF : mz_IF false Fa) (hIG : mz_IG Ga) (hIR : mz_IR [] true Ra) (hg_0 : Fa 14 = gf) (hg_1 : Fa 15 = gt) (hg_2 : Fa 16 = gs) (hg_3 : Fa 13 = gp) (hg_4 : Ga 17 = gw) (hg_5 : Fa 19 = gb) (hp_0 : (-1000) ≤ p1.toInt) (hp_1 : p1.toInt ≤ 1000) (hp_2 : (-1000) ≤ p2.toInt) (hp_3 : p2.toInt ≤ 1000) (hp_4 : 0 ≤ (-1) * gf.toInt + gt.toInt) (hp_5 : 0 ≤ gp.toInt + (-1) * gt.toInt) (hp_6 : (1 ≤ gs.toInt → 0 ≤ (-1) * gf.toInt + gt.toInt + (-1))) (hp_7 : (27 ≤ gw.toInt → 1 ≤ gs.toInt → gs.toInt ≤ 1 → 0 ≤ (-1) * gf.toInt + gt.toInt + (-2))) : Met l yX13_number (wl yX13_number cX13_number 6 (some .int)) ({ frames := 6, cells := 0, slots := 0, locals := 350 }) (mz_p D cy ld ad am Fa Ga Ra Sa [.ref am, .long p1, .long p2]) (mz_i D cy ad am (fun r F G R S => mz_IF false F ∧ mz_IG G ∧ mz_IR [] true R ∧ (∀ k : Nat, k ∉ ([14, 15, 16, 18, 19] : List Nat) → F k = Fa k) ∧ (∀ k : Nat, k ∉ ([] : List Nat) → R k = Ra k) ∧ (∀ k : Nat, k ∉ ([17] : List Nat) → G k = Ga k) ∧ 0 ≤ (-1) * (F 14).toInt + (F 15).toInt ∧ 0 ≤ gp.toInt + (-1) * (F 15).toInt ∧ (1 ≤ (F 16).toInt → 0 ≤ (-1) * (F 14).toInt + (F 15).toInt + (-1)) ∧ (27 ≤ (G 17).toInt → 1 ≤ (F 16).toInt → (F 16).toInt ≤ 1 → 0 ≤ (-1) * (F 14).toInt + (F 15).toInt + (-2)) ∧ 0 ≤ (-1) * gf.toInt + (F 14).toInt ∧ 0 ≤ (-1) * gb.toInt + (F 19).toInt ∧ ((F 19).toInt ≤ 0 → 0 ≤ (-1) * gt.toInt + (F 14).toInt ∧ 0 ≤ (-1) * p1.toInt + r.toInt ∧ 0 ≤ p2.toInt + (-1) * r.toInt ∧ gb.toInt ≤ 0))) 0 0 (mz_W ad am) := by
  refine mz_met (y := yX13_number) (cc := cX13_number) (maxL := 6) (ret := (some .int)) (av := [.ref am, .long p1, .long p2]) _ (by decide) (Nat.le_of_ble_eq_true rfl) ?_
  intro p e s m args below meth c hx hb hr hml hts htl hown hlocks hK H locs hM hS ls hl
  have hown : s.vm.findClass RX13 = some m.cls := hown
  have hl : lv_has ls 6 [(0, .ref am), (1, .long p1), (3, .long p2)] := hl
  have hq_gf := tk_rng gf
  have hq_gt := tk_rng gt
  have hq_gs := tk_rng gs
  have hq_gp := tk_rng gp
  have hq_gw := tk_rngL gw
  have hq_gb := tk_rng gb
  have hr_gf : 0 ≤ gf.toInt ∧ gf.toInt ≤ 400 := hIF.at hg_0
  have hr_gt : 0 ≤ gt.toInt ∧ gt.toInt ≤ 400 := hIF.at hg_1
  have hr_gs : 0 ≤ gs.toInt ∧ gs.toInt ≤ 3 := hIF.at hg_2
  have hr_gp : 0 ≤ gp.toInt ∧ gp.toInt ≤ 400 := hIF.at hg_3
  have hr_gb : 0 ≤ gb.toInt ∧ gb.toInt ≤ 1 := hIF.at hg_5
  refine lv_aload_n hx hb dX13_number_0 rfl (lv_at hl 0 rfl) ?_
  refine mz_getJ hx hb htl hown hK hM 17 (Nat.le_of_ble_eq_true rfl) rfl (htl _ mw_687) (fun _ h9 => h9) dX13_number_1 (fun v9 e9 => ?_)
  refine fx_tl (v := gw) (e9.symm.trans hg_4) ?_
  obtain ⟨v1, e_v1⟩ : ∃ z : Int32, gw.toInt32 = z := ⟨_, rfl⟩
  refine lv_l2i (v := v1) hx hb dX13_number_4 e_v1 ?_
  have hq_v1 := tk_rng v1
  have hl_v1 : -2147483648 ≤ gw.toInt → gw.toInt ≤ 2147483647 → v1.toInt = gw.toInt := fun h1 h2 => e_v1 ▸ tk_l2i h1 h2
  refine lv_istore (lv' := [(5, .int v1), (0, .ref am), (1, .long p1), (3, .long p2)]) hx hb dX13_number_5 hl (by decide) rfl (fun ls hl => ?_)
  refine lv_aload_n hx hb dX13_number_7 rfl (lv_at hl 1 rfl) ?_
  refine lv_aload_n hx hb dX13_number_8 rfl (lv_at hl 1 rfl) ?_
  refine mz_getI hx hb htl hown hK hM 16 (Nat.le_of_ble_eq_true rfl) rfl (htl _ mw_688) (fun _ h9 => h9) dX13_number_9 (fun v9 e9 => ?_)
  refine fx_ti (v := gs) (e9.symm.trans hg_2) ?_
  refine lv_iconst (v := 2) hx hb dX13_number_12 (by decide) ?_
  refine lv_icmp_ne (tgt := 32) hx hb dX13_number_13 (by decide) (fun c9 => ?_) (fun c9 => ?_)
  · have hc2 : ¬ (gs.toInt = 2) := fun h9 => c9 ((fi_eq rfl (show (2 : Int32).toInt = 2 by decide)).mpr h9)
    refine lv_iconst (v := 0) hx hb dX13_number_32 (by decide) ?_
    have hk_0 : (0 : Int32).toInt = 0 := by decide
    refine mz_Vv (As := [.int 0]) (rest := []) ⟨hx, hb, hml, hown, hts⟩ hK hM hS (k_X13_must l D cy ld ad am hD _ _ _ _ 0 gf gt gs gp gw gb hIF hIG hIR hg_0 hg_1 hg_2 hg_3 hg_4 hg_5 (by omega) (by omega) (by omega) (by omega) (by omega) (by omega)) ⟨callB_of 1 hts (wl_in mw_713) rfl rfl rfl (htl _ mw_5) (htl _ mw_710) hd_yX13_must ⟨(Nat.le_of_ble_eq_true rfl), (Nat.le_of_ble_eq_true rfl)⟩, htl _ mw_711, htl _ mw_712⟩ rfl hl.1 rfl (Nat.le_of_ble_eq_true rfl) dX13_number_33 ⟨(Nat.le_of_ble_eq_true rfl), (Nat.le_of_ble_eq_true rfl)⟩ (fun H locs F G R S hpo hM hS => ?_)
    obtain ⟨hIF, hIG, hIR, hfr9, hrr9, hgr9, hpo3, hpo4, hpo5, hpo6, hpo10, hpo11, hpo12, hpo13⟩ := hpo
    have hFF := mz_fr (K := [14, 15, 16, 18, 19]) (Fa := Fa) hfr9 (fun _ _ => rfl) (by decide)
    have hRR := mz_fr (K := []) (Fa := Ra) hrr9 (fun _ _ => rfl) (by decide)
    have hGG := mz_fr (K := [17]) (Fa := Ga) hgr9 (fun _ _ => rfl) (by decide)
    have hg_3 := (hfr9 13 (by decide)).trans hg_3
    obtain ⟨v16, hf15⟩ : ∃ z : Int32, F 14 = z := ⟨_, rfl⟩
    have hq_v16 := tk_rng v16
    rw [hf15] at hpo3 hpo5 hpo6 hpo10 hpo12
    have hr_v16 : 0 ≤ v16.toInt ∧ v16.toInt ≤ 400 := hIF.at hf15
    obtain ⟨v18, hf17⟩ : ∃ z : Int32, F 15 = z := ⟨_, rfl⟩
    have hq_v18 := tk_rng v18
    rw [hf17] at hpo3 hpo4 hpo5 hpo6
    have hr_v18 : 0 ≤ v18.toInt ∧ v18.toInt ≤ 400 := hIF.at hf17
    obtain ⟨v20, hf19⟩ : ∃ z : Int32, F 16 = z := ⟨_, rfl⟩
    have hq_v20 := tk_rng v20
    rw [hf19] at hpo5 hpo6
    have hr_v20 : 0 ≤ v20.toInt ∧ v20.toInt ≤ 3 := hIF.at hf19
    obtain ⟨w22, hf21⟩ : ∃ z : Int64, G 17 = z := ⟨_, rfl⟩
    have hq_w22 := tk_rngL w22
    rw [hf21] at hpo6
    obtain ⟨v24, hf23⟩ : ∃ z : Int32, F 19 = z := ⟨_, rfl⟩
    have hq_v24 := tk_rng v24
    rw [hf23] at hpo11 hpo12 hpo13
    have hr_v24 : 0 ≤ v24.toInt ∧ v24.toInt ≤ 1 := hIF.at hf23
    refine lv_iload hx hb dX13_number_36 (lv_at hl 0 rfl) ?_
    exact mz_iret (v := v1) hx hb hr rfl hlocks ⟨hIF, hIG, hIR, hFF, hRR, hGG, (by rw [hf15, hf17]; omega), (by rw [hf17]; omega), (by rw [hf15, hf17, hf19]; omega), (by rw [hf15, hf17, hf19, hf21]; omega), (by rw [hf15]; omega), (by rw [hf23]; omega), (by rw [hf15, hf23]; omega)⟩ hM hS dX13_number_38
  · have hc2 : gs.toInt = 2 := (fi_eq rfl (show (2 : Int32).toInt = 2 by decide)).mp c9
    have hwk_25 : 0 ≤ (-1) * gf.toInt + gt.toInt + (-1) := by omega
    refine lv_aload_n hx hb dX13_number_16 rfl (lv_at hl 1 rfl) ?_
    refine mz_getJ hx hb htl hown hK hM 17 (Nat.le_of_ble_eq_true rfl) rfl (htl _ mw_687) (fun _ h9 => h9) dX13_number_17 (fun v9 e9 => ?_)
    refine fx_tl (v := gw) (e9.symm.trans hg_4) ?_
    refine lv_lload_n hx hb dX13_number_20 rfl (lv_at hl 2 rfl) ?_
    refine lv_lload_n hx hb dX13_number_21 rfl (lv_at hl 3 rfl) ?_
    refine mz_Sj (As := [.long gw, .long p1, .long p2]) (rest := [.ref am]) ⟨hx, hb, hml, hown, hts⟩ hK hM hS (k_X13_in l D cy ld ad am hD _ _ _ _ gw p1 p2) ⟨callB_of 3 hts (wl_in mw_292) rfl rfl rfl (htl _ mw_5) (htl _ mw_290) hd_yX13_in ⟨(Nat.le_of_ble_eq_true rfl), (Nat.le_of_ble_eq_true rfl)⟩, htl _ mw_291⟩ rfl hl.1 rfl (Nat.le_of_ble_eq_true rfl) dX13_number_22 ⟨(Nat.le_of_ble_eq_true rfl), (Nat.le_of_ble_eq_true rfl)⟩ (fun v26 H locs hpo hM hS => ?_)
    obtain ⟨hpo27, hpo28, hpo29, hpo30, hpo31, hpo32⟩ := hpo
    have hq_v26 := tk_rng v26
    refine lv_if_eq (tgt := 32) hx hb dX13_number_25 (by decide) (fun c9 => ?_) (fun c9 => ?_)
    · have hc34 : v26.toInt = 0 := (fi_eq rfl (show (0 : Int32).toInt = 0 by decide)).mp c9
      refine lv_iconst (v := 0) hx hb dX13_number_32 (by decide) ?_
      have hk_0 : (0 : Int32).toInt = 0 := by decide
      refine mz_Vv (As := [.int 0]) (rest := []) ⟨hx, hb, hml, hown, hts⟩ hK hM hS (k_X13_must l D cy ld ad am hD _ _ _ _ 0 gf gt gs gp gw gb hIF hIG hIR hg_0 hg_1 hg_2 hg_3 hg_4 hg_5 (by omega) (by omega) (by omega) (by omega) (by omega) (by omega)) ⟨callB_of 1 hts (wl_in mw_713) rfl rfl rfl (htl _ mw_5) (htl _ mw_710) hd_yX13_must ⟨(Nat.le_of_ble_eq_true rfl), (Nat.le_of_ble_eq_true rfl)⟩, htl _ mw_711, htl _ mw_712⟩ rfl hl.1 rfl (Nat.le_of_ble_eq_true rfl) dX13_number_33 ⟨(Nat.le_of_ble_eq_true rfl), (Nat.le_of_ble_eq_true rfl)⟩ (fun H locs F G R S hpo hM hS => ?_)
      obtain ⟨hIF, hIG, hIR, hfr9, hrr9, hgr9, hpo35, hpo36, hpo37, hpo38, hpo39, hpo40, hpo41, hpo42⟩ := hpo
      have hFF := mz_fr (K := [14, 15, 16, 18, 19]) (Fa := Fa) hfr9 (fun _ _ => rfl) (by decide)
      have hRR := mz_fr (K := []) (Fa := Ra) hrr9 (fun _ _ => rfl) (by decide)
      have hGG := mz_fr (K := [17]) (Fa := Ga) hgr9 (fun _ _ => rfl) (by decide)
      have hg_3 := (hfr9 13 (by decide)).trans hg_3
      obtain ⟨v45, hf44⟩ : ∃ z : Int32, F 14 = z := ⟨_, rfl⟩
      have hq_v45 := tk_rng v45
      rw [hf44] at hpo35 hpo37 hpo38 hpo39 hpo41
      have hr_v45 : 0 ≤ v45.toInt ∧ v45.toInt ≤ 400 := hIF.at hf44
      obtain ⟨v47, hf46⟩ : ∃ z : Int32, F 15 = z := ⟨_, rfl⟩
      have hq_v47 := tk_rng v47
      rw [hf46] at hpo35 hpo36 hpo37 hpo38
      have hr_v47 : 0 ≤ v47.toInt ∧ v47.toInt ≤ 400 := hIF.at hf46
      obtain ⟨v49, hf48⟩ : ∃ z : Int32, F 16 = z := ⟨_, rfl⟩
      have hq_v49 := tk_rng v49
      rw [hf48] at hpo37 hpo38
      have hr_v49 : 0 ≤ v49.toInt ∧ v49.toInt ≤ 3 := hIF.at hf48
      obtain ⟨w51, hf50⟩ : ∃ z : Int64, G 17 = z := ⟨_, rfl⟩
      have hq_w51 := tk_rngL w51
      rw [hf50] at hpo38
      obtain ⟨v53, hf52⟩ : ∃ z : Int32, F 19 = z := ⟨_, rfl⟩
      have hq_v53 := tk_rng v53
      rw [hf52] at hpo40 hpo41 hpo42
      have hr_v53 : 0 ≤ v53.toInt ∧ v53.toInt ≤ 1 := hIF.at hf52
      refine lv_iload hx hb dX13_number_36 (lv_at hl 0 rfl) ?_
      exact mz_iret (v := v1) hx hb hr rfl hlocks ⟨hIF, hIG, hIR, hFF, hRR, hGG, (by rw [hf44, hf46]; omega), (by rw [hf46]; omega), (by rw [hf44, hf46, hf48]; omega), (by rw [hf44, hf46, hf48, hf50]; omega), (by rw [hf44]; omega), (by rw [hf52]; omega), (by rw [hf44, hf52]; omega)⟩ hM hS dX13_number_38
    · have hc34 : ¬ (v26.toInt = 0) := fun h9 => c9 ((fi_eq rfl (show (0 : Int32).toInt = 0 by decide)).mpr h9)
      have hwk_54 : 0 ≤ gw.toInt + (-1) * p1.toInt ∧ 0 ≤ (-1) * gw.toInt + p2.toInt := by omega
      have hwk_55 : (-1) * gw.toInt + v1.toInt = 0 := by omega
      refine lv_iconst (v := 1) hx hb dX13_number_28 (by decide) ?_
      refine lv_goto (tgt := 33) hx hb dX13_number_29 (by decide) ?_
      have hk_1 : (1 : Int32).toInt = 1 := by decide
      refine mz_Vv (As := [.int 1]) (rest := []) ⟨hx, hb, hml, hown, hts⟩ hK hM hS (k_X13_must l D cy ld ad am hD _ _ _ _ 1 gf gt gs gp gw gb hIF hIG hIR hg_0 hg_1 hg_2 hg_3 hg_4 hg_5 (by omega) (by omega) (by omega) (by omega) (by omega) (by omega)) ⟨callB_of 1 hts (wl_in mw_713) rfl rfl rfl (htl _ mw_5) (htl _ mw_710) hd_yX13_must ⟨(Nat.le_of_ble_eq_true rfl), (Nat.le_of_ble_eq_true rfl)⟩, htl _ mw_711, htl _ mw_712⟩ rfl hl.1 rfl (Nat.le_of_ble_eq_true rfl) dX13_number_33 ⟨(Nat.le_of_ble_eq_true rfl), (Nat.le_of_ble_eq_true rfl)⟩ (fun H locs F G R S hpo hM hS => ?_)
      obtain ⟨hIF, hIG, hIR, hfr9, hrr9, hgr9, hpo56, hpo57, hpo58, hpo59, hpo60, hpo61, hpo62, hpo63⟩ := hpo
      have hFF := mz_fr (K := [14, 15, 16, 18, 19]) (Fa := Fa) hfr9 (fun _ _ => rfl) (by decide)
      have hRR := mz_fr (K := []) (Fa := Ra) hrr9 (fun _ _ => rfl) (by decide)
      have hGG := mz_fr (K := [17]) (Fa := Ga) hgr9 (fun _ _ => rfl) (by decide)
      have hg_3 := (hfr9 13 (by decide)).trans hg_3
      obtain ⟨v66, hf65⟩ : ∃ z : Int32, F 14 = z := ⟨_, rfl⟩
      have hq_v66 := tk_rng v66
      rw [hf65] at hpo56 hpo58 hpo59 hpo60 hpo62
      have hr_v66 : 0 ≤ v66.toInt ∧ v66.toInt ≤ 400 := hIF.at hf65
      obtain ⟨v68, hf67⟩ : ∃ z : Int32, F 15 = z := ⟨_, rfl⟩
      have hq_v68 := tk_rng v68
      rw [hf67] at hpo56 hpo57 hpo58 hpo59
      have hr_v68 : 0 ≤ v68.toInt ∧ v68.toInt ≤ 400 := hIF.at hf67
      obtain ⟨v70, hf69⟩ : ∃ z : Int32, F 16 = z := ⟨_, rfl⟩
      have hq_v70 := tk_rng v70
      rw [hf69] at hpo58 hpo59
      have hr_v70 : 0 ≤ v70.toInt ∧ v70.toInt ≤ 3 := hIF.at hf69
      obtain ⟨w72, hf71⟩ : ∃ z : Int64, G 17 = z := ⟨_, rfl⟩
      have hq_w72 := tk_rngL w72
      rw [hf71] at hpo59
      obtain ⟨v74, hf73⟩ : ∃ z : Int32, F 19 = z := ⟨_, rfl⟩
      have hq_v74 := tk_rng v74
      rw [hf73] at hpo61 hpo62 hpo63
      have hr_v74 : 0 ≤ v74.toInt ∧ v74.toInt ≤ 1 := hIF.at hf73
      refine lv_iload hx hb dX13_number_36 (lv_at hl 0 rfl) ?_
      exact mz_iret (v := v1) hx hb hr rfl hlocks ⟨hIF, hIG, hIR, hFF, hRR, hGG, (by rw [hf65, hf67]; omega), (by rw [hf67]; omega), (by rw [hf65, hf67, hf69]; omega), (by rw [hf65, hf67, hf69, hf71]; omega), (by rw [hf65]; omega), (by rw [hf73]; omega), (by rw [hf65, hf73]; omega)⟩ hM hS dX13_number_38
