theorem hd_yX13_readSum : yX13_readSum.cls ≠ "java/lang/invoke/MethodHandle" ∧ yX13_readSum.cls ≠ "java/lang/invoke/VarHandle" ∧ (parseMethodDescriptor yX13_readSum.desc).map (fun d => d.parameters.length) = some 1 := by decide +kernel
theorem dX13_readBehind_0 : decode cX13_readBehind 0 = .ok (.aload_n 0, 1) := by decide +kernel
theorem dX13_readBehind_1 : decode cX13_readBehind 1 = .ok (.getfield 236, 3) := by decide +kernel
theorem dX13_readBehind_4 : decode cX13_readBehind 4 = .ok (.ifCond .ne 12, 3) := by decide +kernel
theorem dX13_readBehind_16 : decode cX13_readBehind 16 = .ok (.aload_n 0, 1) := by decide +kernel
theorem dX13_readBehind_17 : decode cX13_readBehind 17 = .ok (.iload_n 1, 1) := by decide +kernel
theorem dX13_readBehind_18 : decode cX13_readBehind 18 = .ok (.invokevirtual 593, 3) := by decide +kernel
theorem dX13_readBehind_21 : decode cX13_readBehind 21 = .ok (.return_, 1) := by decide +kernel
theorem dX13_readBehind_7 : decode cX13_readBehind 7 = .ok (.aload_n 0, 1) := by decide +kernel
theorem dX13_readBehind_8 : decode cX13_readBehind 8 = .ok (.aload_n 0, 1) := by decide +kernel
theorem dX13_readBehind_9 : decode cX13_readBehind 9 = .ok (.lload_n 2, 1) := by decide +kernel
theorem dX13_readBehind_10 : decode cX13_readBehind 10 = .ok (.invokevirtual 296, 3) := by decide +kernel
theorem dX13_readBehind_13 : decode cX13_readBehind 13 = .ok (.invokevirtual 271, 3) := by decide +kernel
set_option maxHeartbeats 4000000 in
set_option maxRecDepth 100000 in
theorem k_X13_readBehind (l : Launch) (D : va_G) (cy : Nat → ClassId) (ld ad : Nat → Nat) (am : Nat) (hD : mz_D ad am) (Fa : Nat → Int32) (Ga : Nat → Int64) (Ra : Nat → Nat → Int32) (Sa : Nat → Nat → Int64) (p1 : Int32) (p2 : Int64) (gf : Int32) (gt : Int32) (gs : Int32) (gp : Int32) (gw : Int64) (gb : Int32) (gc : Int32) (hIF : mz_IF false Fa) (hIG : mz_IG Ga) (hIR : mz_IR [] true Ra) (hg_0 : Fa 14 = gf) (hg_1 : Fa 15 = gt) (hg_2 : Fa 16 = gs) (hg_3 : Fa 13 = gp) (hg_4 : Ga 17 = gw) (hg_5 : Fa 19 = gb) (hg_6 : Fa 23 = gc) (hp_0 : 0 ≤ p1.toInt) (hp_1 : p1.toInt ≤ 118) (hp_2 : 0 ≤ (-1) * gf.toInt + gt.toInt) (hp_3 : 0 ≤ gp.toInt + (-1) * gt.toInt) (hp_4 : (1 ≤ gs.toInt → 0 ≤ (-1) * gf.toInt + gt.toInt + (-1))) (hp_5 : (27 ≤ gw.toInt → 1 ≤ gs.toInt → gs.toInt ≤ 1 → 0 ≤ (-1) * gf.toInt + gt.toInt + (-2))) (hp_6 : 0 ≤ (-1) * gc.toInt + gf.toInt) : Met l yX13_readBehind (wl yX13_readBehind cX13_readBehind 4 none) ({ frames := 11, cells := 0, slots := 0, locals := 700 }) (mz_p D cy ld ad am Fa Ga Ra Sa [.ref am, .int p1, .long p2]) (mz_w D cy ad am (fun F G R S => mz_IF false F ∧ mz_IG G ∧ mz_IR [] true R ∧ (∀ k : Nat, k ∉ ([14, 15, 16, 18, 19, 23, 26, 29, 30] : List Nat) → F k = Fa k) ∧ (∀ k : Nat, k ∉ ([24, 25, 27, 28, 61] : List Nat) → R k = Ra k) ∧ (∀ k : Nat, k ∉ ([17] : List Nat) → G k = Ga k) ∧ 0 ≤ (-1) * (F 14).toInt + (F 15).toInt ∧ 0 ≤ gp.toInt + (-1) * (F 15).toInt ∧ (1 ≤ (F 16).toInt → 0 ≤ (-1) * (F 14).toInt + (F 15).toInt + (-1)) ∧ (27 ≤ (G 17).toInt → 1 ≤ (F 16).toInt → (F 16).toInt ≤ 1 → 0 ≤ (-1) * (F 14).toInt + (F 15).toInt + (-2)) ∧ 0 ≤ (-1) * gf.toInt + (F 14).toInt ∧ 0 ≤ (-1) * gc.toInt + (F 23).toInt ∧ 0 ≤ (-1) * (F 23).toInt + (F 14).toInt ∧ 0 ≤ (-1) * gb.toInt + (F 19).toInt ∧ R 61 = upd (upd (Ra 61) p1.toInt.toNat gc) (p1.toInt.toNat + 1) (F 23) ∧ ((F 19).toInt = 0 → WFC (R 24) (R 25) gc.toInt.toNat (F 23).toInt.toNat ∧ low gc.toInt.toNat (Ra 24) (R 24) ∧ low gc.toInt.toNat (Ra 25) (R 25)))) 0 0 (mz_W ad am) := by
  refine mz_met (y := yX13_readBehind) (cc := cX13_readBehind) (maxL := 4) (ret := none) (av := [.ref am, .int p1, .long p2]) _ (by decide) (Nat.le_of_ble_eq_true rfl) ?_
  intro p e s m args below meth c hx hb hr hml hts htl hown hlocks hK H locs hM hS ls hl
  have hown : s.vm.findClass RX13 = some m.cls := hown
  have hl : lv_has ls 4 [(0, .ref am), (1, .int p1), (2, .long p2)] := hl
  have hr_p1 := tk_rng p1
  have hq_gf := tk_rng gf
  have hq_gt := tk_rng gt
  have hq_gs := tk_rng gs
  have hq_gp := tk_rng gp
  have hq_gw := tk_rngL gw
  have hq_gb := tk_rng gb
  have hq_gc := tk_rng gc
  have hr_gf : 0 ≤ gf.toInt ∧ gf.toInt ≤ 400 := hIF.at hg_0
  have hr_gt : 0 ≤ gt.toInt ∧ gt.toInt ≤ 400 := hIF.at hg_1
  have hr_gs : 0 ≤ gs.toInt ∧ gs.toInt ≤ 3 := hIF.at hg_2
  have hr_gp : 0 ≤ gp.toInt ∧ gp.toInt ≤ 400 := hIF.at hg_3
  have hr_gb : 0 ≤ gb.toInt ∧ gb.toInt ≤ 1 := hIF.at hg_5
  have hr_gc : 0 ≤ gc.toInt ∧ gc.toInt ≤ 400 := hIF.at hg_6
  refine lv_aload_n hx hb dX13_readBehind_0 rfl (lv_at hl 0 rfl) ?_
  refine mz_getI hx hb htl hown hK hM 19 (Nat.le_of_ble_eq_true rfl) rfl (htl _ mw_668) (fun _ h9 => h9) dX13_readBehind_1 (fun v9 e9 => ?_)
  refine fx_ti (v := gb) (e9.symm.trans hg_5) ?_
  refine lv_if_ne (tgt := 16) hx hb dX13_readBehind_4 (by decide) (fun c9 => ?_) (fun c9 => ?_)
  · have hc1 : ¬ (gb.toInt = 0) := fun h9 => c9 ((fi_eq rfl (show (0 : Int32).toInt = 0 by decide)).mpr h9)
    refine lv_aload_n hx hb dX13_readBehind_16 rfl (lv_at hl 0 rfl) ?_
    refine lv_iload_n hx hb dX13_readBehind_17 rfl (lv_at hl 1 rfl) ?_
    have hb24 := (rfl : Ra 24 = Ra 24)
    have hb25 := (rfl : Ra 25 = Ra 25)
    have hb61 := (rfl : Ra 61 = Ra 61)
    refine mz_Vv (As := [.int p1]) (rest := []) ⟨hx, hb, hml, hown, hts⟩ hK hM hS (k_X13_readSum l D cy ld ad am hD _ _ _ _ p1 gf gt gs gp gw gb gc hIF hIG hIR hg_0 hg_1 hg_2 hg_3 hg_4 hg_5 hg_6 (by omega) (by omega) (by omega) (by omega) (by omega) (by omega) (by omega)) ⟨callB_of 1 hts (wl_in mw_1025) rfl rfl rfl (htl _ mw_5) (htl _ mw_1022) hd_yX13_readSum ⟨(Nat.le_of_ble_eq_true rfl), (Nat.le_of_ble_eq_true rfl)⟩, htl _ mw_1023, htl _ mw_1024⟩ rfl hl.1 rfl (Nat.le_of_ble_eq_true rfl) dX13_readBehind_18 ⟨(Nat.le_of_ble_eq_true rfl), (Nat.le_of_ble_eq_true rfl)⟩ (fun H locs F G R S hpo hM hS => ?_)
    obtain ⟨hIF, hIG, hIR, hfr9, hrr9, hgr9, hpo2, hpo3, hpo4, hpo5, hpo6, hpo10, hpo11, hpo12, hx13, hx14⟩ := hpo
    have hFF := mz_fr (K := [14, 15, 16, 18, 19, 23, 26, 29, 30]) (Fa := Fa) hfr9 (fun _ _ => rfl) (by decide)
    have hRR := mz_fr (K := [24, 25, 27, 28, 61]) (Fa := Ra) hrr9 (fun _ _ => rfl) (by decide)
    have hGG := mz_fr (K := [17]) (Fa := Ga) hgr9 (fun _ _ => rfl) (by decide)
    have hg_3 := (hfr9 13 (by decide)).trans hg_3
    obtain ⟨v17, hf16⟩ : ∃ z : Int32, F 14 = z := ⟨_, rfl⟩
    have hq_v17 := tk_rng v17
    rw [hf16] at hpo2 hpo4 hpo5 hpo6 hpo11
    have hr_v17 : 0 ≤ v17.toInt ∧ v17.toInt ≤ 400 := hIF.at hf16
    obtain ⟨v19, hf18⟩ : ∃ z : Int32, F 15 = z := ⟨_, rfl⟩
    have hq_v19 := tk_rng v19
    rw [hf18] at hpo2 hpo3 hpo4 hpo5
    have hr_v19 : 0 ≤ v19.toInt ∧ v19.toInt ≤ 400 := hIF.at hf18
    obtain ⟨v21, hf20⟩ : ∃ z : Int32, F 16 = z := ⟨_, rfl⟩
    have hq_v21 := tk_rng v21
    rw [hf20] at hpo4 hpo5
    have hr_v21 : 0 ≤ v21.toInt ∧ v21.toInt ≤ 3 := hIF.at hf20
    obtain ⟨w23, hf22⟩ : ∃ z : Int64, G 17 = z := ⟨_, rfl⟩
    have hq_w23 := tk_rngL w23
    rw [hf22] at hpo5
    obtain ⟨v25, hf24⟩ : ∃ z : Int32, F 19 = z := ⟨_, rfl⟩
    have hq_v25 := tk_rng v25
    rw [hf24] at hpo12
    have hr_v25 : 0 ≤ v25.toInt ∧ v25.toInt ≤ 1 := hIF.at hf24
    obtain ⟨v27, hf26⟩ : ∃ z : Int32, F 23 = z := ⟨_, rfl⟩
    have hq_v27 := tk_rng v27
    rw [hf26] at hpo10 hpo11
    have hr_v27 : 0 ≤ v27.toInt ∧ v27.toInt ≤ 400 := hIF.at hf26
    exact mz_vret hx hb hr hlocks ⟨hIF, hIG, hIR, hFF, hRR, hGG, (by rw [hf16, hf18]; omega), (by rw [hf18]; omega), (by rw [hf16, hf18, hf20]; omega), (by rw [hf16, hf18, hf20, hf22]; omega), (by rw [hf16]; omega), (by rw [hf26]; omega), (by rw [hf16, hf26]; omega), (by rw [hf24]; omega), (by have h9 := hx13; rw [hb61] at h9; exact h9), (by have h9 := hx14; rw [hb24, hb25] at h9; exact h9)⟩ hM hS dX13_readBehind_21
  · have hc1 : gb.toInt = 0 := (fi_eq rfl (show (0 : Int32).toInt = 0 by decide)).mp c9
    refine lv_aload_n hx hb dX13_readBehind_7 rfl (lv_at hl 0 rfl) ?_
    refine lv_aload_n hx hb dX13_readBehind_8 rfl (lv_at hl 0 rfl) ?_
    refine lv_lload_n hx hb dX13_readBehind_9 rfl (lv_at hl 2 rfl) ?_
    have hb24 := (rfl : Ra 24 = Ra 24)
    have hb25 := (rfl : Ra 25 = Ra 25)
    have hb61 := (rfl : Ra 61 = Ra 61)
    refine mz_Vj (As := [.long p2]) (rest := [.ref am]) ⟨hx, hb, hml, hown, hts⟩ hK hM hS (k_X13_isWord l D cy ld ad am hD _ _ _ _ p2 gs gw hIF hIG hIR hg_2 hg_4) ⟨callB_of 1 hts (wl_in mw_709) rfl rfl rfl (htl _ mw_5) (htl _ mw_706) hd_yX13_isWord ⟨(Nat.le_of_ble_eq_true rfl), (Nat.le_of_ble_eq_true rfl)⟩, htl _ mw_707, htl _ mw_708⟩ rfl hl.1 rfl (Nat.le_of_ble_eq_true rfl) dX13_readBehind_10 ⟨(Nat.le_of_ble_eq_true rfl), (Nat.le_of_ble_eq_true rfl)⟩ (fun v28 H locs hpo hM hS => ?_)
    obtain ⟨hpo29, hpo30, hpo31, hpo32, hpo33⟩ := hpo
    have hq_v28 := tk_rng v28
    have hb24 := (rfl : Ra 24 = Ra 24)
    have hb25 := (rfl : Ra 25 = Ra 25)
    have hb61 := (rfl : Ra 61 = Ra 61)
    refine mz_Vv (As := [.int v28]) (rest := []) ⟨hx, hb, hml, hown, hts⟩ hK hM hS (k_X13_must l D cy ld ad am hD _ _ _ _ v28 gf gt gs gp gw gb hIF hIG hIR hg_0 hg_1 hg_2 hg_3 hg_4 hg_5 (by omega) (by omega) (by omega) (by omega) (by omega) (by omega)) ⟨callB_of 1 hts (wl_in mw_713) rfl rfl rfl (htl _ mw_5) (htl _ mw_710) hd_yX13_must ⟨(Nat.le_of_ble_eq_true rfl), (Nat.le_of_ble_eq_true rfl)⟩, htl _ mw_711, htl _ mw_712⟩ rfl hl.1 rfl (Nat.le_of_ble_eq_true rfl) dX13_readBehind_13 ⟨(Nat.le_of_ble_eq_true rfl), (Nat.le_of_ble_eq_true rfl)⟩ (fun H locs F G R S hpo hM hS => ?_)
    obtain ⟨hIF, hIG, hIR, hfr9, hrr9, hgr9, hpo35, hpo36, hpo37, hpo38, hpo39, hpo40, hpo41, hpo42⟩ := hpo
    have hFF := mz_fr (K := [14, 15, 16, 18, 19, 23, 26, 29, 30]) (Fa := Fa) hfr9 (fun _ _ => rfl) (by decide)
    have hRR := mz_fr (K := [24, 25, 27, 28, 61]) (Fa := Ra) hrr9 (fun _ _ => rfl) (by decide)
    have hGG := mz_fr (K := [17]) (Fa := Ga) hgr9 (fun _ _ => rfl) (by decide)
    have hre_24 : R 24 = Ra 24 := (hrr9 24 (by decide)).trans (rfl : Ra 24 = Ra 24)
    have hre_25 : R 25 = Ra 25 := (hrr9 25 (by decide)).trans (rfl : Ra 25 = Ra 25)
    have hre_61 : R 61 = Ra 61 := (hrr9 61 (by decide)).trans (rfl : Ra 61 = Ra 61)
    have hg_3 := (hfr9 13 (by decide)).trans hg_3
    have hg_6 := (hfr9 23 (by decide)).trans hg_6
    obtain ⟨v45, hf44⟩ : ∃ z : Int32, F 14 = z := ⟨_, rfl⟩
    have hq_v45 := tk_rng v45
    rw [hf44] at hpo35 hpo37 hpo38 hpo39 hpo41
    have hr_v45 : 0 ≤ v45.toInt ∧ v45.toInt ≤ 400 := hIF.at hf44
    obtain ⟨v47, hf46⟩ : ∃ z : Int32, F 15 = z := ⟨_, rfl⟩
    have hq_v47 := tk_rng v47
    rw [hf46] at hpo35 hpo36 hpo37 hpo38
    have hr_v47 : 0 ≤ v47.toInt ∧ v47.toInt ≤ 400 := hIF.at hf46
    obtain ⟨v49, hf48⟩ : ∃ z : Int32, F 16 = z := ⟨_, rfl⟩
    have hq_v49 := tk_rng v49
    rw [hf48] at hpo37 hpo38
    have hr_v49 : 0 ≤ v49.toInt ∧ v49.toInt ≤ 3 := hIF.at hf48
    obtain ⟨w51, hf50⟩ : ∃ z : Int64, G 17 = z := ⟨_, rfl⟩
    have hq_w51 := tk_rngL w51
    rw [hf50] at hpo38
    obtain ⟨v53, hf52⟩ : ∃ z : Int32, F 19 = z := ⟨_, rfl⟩
    have hq_v53 := tk_rng v53
    rw [hf52] at hpo40 hpo41 hpo42
    have hr_v53 : 0 ≤ v53.toInt ∧ v53.toInt ≤ 1 := hIF.at hf52
    refine lv_aload_n hx hb dX13_readBehind_16 rfl (lv_at hl 0 rfl) ?_
    refine lv_iload_n hx hb dX13_readBehind_17 rfl (lv_at hl 1 rfl) ?_
    have hb24 := hre_24
    have hb25 := hre_25
    have hb61 := hre_61
    refine mz_Vv (As := [.int p1]) (rest := []) ⟨hx, hb, hml, hown, hts⟩ hK hM hS (k_X13_readSum l D cy ld ad am hD _ _ _ _ p1 v45 v47 v49 gp w51 v53 gc hIF hIG hIR hf44 hf46 hf48 hg_3 hf50 hf52 hg_6 (by omega) (by omega) (by omega) (by omega) (by omega) (by omega) (by omega)) ⟨callB_of 1 hts (wl_in mw_1025) rfl rfl rfl (htl _ mw_5) (htl _ mw_1022) hd_yX13_readSum ⟨(Nat.le_of_ble_eq_true rfl), (Nat.le_of_ble_eq_true rfl)⟩, htl _ mw_1023, htl _ mw_1024⟩ rfl hl.1 rfl (Nat.le_of_ble_eq_true rfl) dX13_readBehind_18 ⟨(Nat.le_of_ble_eq_true rfl), (Nat.le_of_ble_eq_true rfl)⟩ (fun H locs F G R S hpo hM hS => ?_)
    obtain ⟨hIF, hIG, hIR, hfr9, hrr9, hgr9, hpo54, hpo55, hpo56, hpo57, hpo58, hpo59, hpo60, hpo61, hx62, hx63⟩ := hpo
    have hFF := mz_fr (K := [14, 15, 16, 18, 19, 23, 26, 29, 30]) (Fa := Fa) hfr9 hFF (by decide)
    have hRR := mz_fr (K := [24, 25, 27, 28, 61]) (Fa := Ra) hrr9 hRR (by decide)
    have hGG := mz_fr (K := [17]) (Fa := Ga) hgr9 hGG (by decide)
    have hg_3 := (hfr9 13 (by decide)).trans hg_3
    obtain ⟨v66, hf65⟩ : ∃ z : Int32, F 14 = z := ⟨_, rfl⟩
    have hq_v66 := tk_rng v66
    rw [hf65] at hpo54 hpo56 hpo57 hpo58 hpo60
    have hr_v66 : 0 ≤ v66.toInt ∧ v66.toInt ≤ 400 := hIF.at hf65
    obtain ⟨v68, hf67⟩ : ∃ z : Int32, F 15 = z := ⟨_, rfl⟩
    have hq_v68 := tk_rng v68
    rw [hf67] at hpo54 hpo55 hpo56 hpo57
    have hr_v68 : 0 ≤ v68.toInt ∧ v68.toInt ≤ 400 := hIF.at hf67
    obtain ⟨v70, hf69⟩ : ∃ z : Int32, F 16 = z := ⟨_, rfl⟩
    have hq_v70 := tk_rng v70
    rw [hf69] at hpo56 hpo57
    have hr_v70 : 0 ≤ v70.toInt ∧ v70.toInt ≤ 3 := hIF.at hf69
    obtain ⟨w72, hf71⟩ : ∃ z : Int64, G 17 = z := ⟨_, rfl⟩
    have hq_w72 := tk_rngL w72
    rw [hf71] at hpo57
    obtain ⟨v74, hf73⟩ : ∃ z : Int32, F 19 = z := ⟨_, rfl⟩
    have hq_v74 := tk_rng v74
    rw [hf73] at hpo61
    have hr_v74 : 0 ≤ v74.toInt ∧ v74.toInt ≤ 1 := hIF.at hf73
    obtain ⟨v76, hf75⟩ : ∃ z : Int32, F 23 = z := ⟨_, rfl⟩
    have hq_v76 := tk_rng v76
    rw [hf75] at hpo59 hpo60
    have hr_v76 : 0 ≤ v76.toInt ∧ v76.toInt ≤ 400 := hIF.at hf75
    exact mz_vret hx hb hr hlocks ⟨hIF, hIG, hIR, hFF, hRR, hGG, (by rw [hf65, hf67]; omega), (by rw [hf67]; omega), (by rw [hf65, hf67, hf69]; omega), (by rw [hf65, hf67, hf69, hf71]; omega), (by rw [hf65]; omega), (by rw [hf75]; omega), (by rw [hf65, hf75]; omega), (by rw [hf73]; omega), (by have h9 := hx62; rw [hb61] at h9; exact h9), (by have h9 := hx63; rw [hb24, hb25] at h9; exact h9)⟩ hM hS dX13_readBehind_21
