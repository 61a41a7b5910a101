theorem dX13_behindTest_0 : decode cX13_behindTest 0 = .ok (.aload_n 0, 1) := by decide +kernel
theorem dX13_behindTest_1 : decode cX13_behindTest 1 = .ok (.ldc2_w 352, 3) := by decide +kernel
theorem dX13_behindTest_4 : decode cX13_behindTest 4 = .ok (.invokevirtual 296, 3) := by decide +kernel
theorem dX13_behindTest_7 : decode cX13_behindTest 7 = .ok (.istore_n 1, 1) := by decide +kernel
theorem dX13_behindTest_8 : decode cX13_behindTest 8 = .ok (.iload_n 1, 1) := by decide +kernel
theorem dX13_behindTest_9 : decode cX13_behindTest 9 = .ok (.ifCond .ne 13, 3) := by decide +kernel
theorem dX13_behindTest_22 : decode cX13_behindTest 22 = .ok (.aload_n 0, 1) := by decide +kernel
theorem dX13_behindTest_23 : decode cX13_behindTest 23 = .ok (.iload_n 1, 1) := by decide +kernel
theorem dX13_behindTest_24 : decode cX13_behindTest 24 = .ok (.ifCond .eq 7, 3) := by decide +kernel
theorem dX13_behindTest_27 : decode cX13_behindTest 27 = .ok (.iconst 2, 1) := by decide +kernel
theorem dX13_behindTest_28 : decode cX13_behindTest 28 = .ok (.goto 4, 3) := by decide +kernel
theorem dX13_behindTest_32 : decode cX13_behindTest 32 = .ok (.invokevirtual 342, 3) := by decide +kernel
theorem dX13_behindTest_35 : decode cX13_behindTest 35 = .ok (.aload_n 0, 1) := by decide +kernel
theorem dX13_behindTest_36 : decode cX13_behindTest 36 = .ok (.iload_n 1, 1) := by decide +kernel
theorem dX13_behindTest_37 : decode cX13_behindTest 37 = .ok (.ifCond .eq 8, 3) := by decide +kernel
theorem dX13_behindTest_40 : decode cX13_behindTest 40 = .ok (.bipush 29, 2) := by decide +kernel
theorem dX13_behindTest_42 : decode cX13_behindTest 42 = .ok (.goto 5, 3) := by decide +kernel
theorem dX13_behindTest_47 : decode cX13_behindTest 47 = .ok (.aload_n 0, 1) := by decide +kernel
theorem dX13_behindTest_48 : decode cX13_behindTest 48 = .ok (.getfield 275, 3) := by decide +kernel
theorem dX13_behindTest_51 : decode cX13_behindTest 51 = .ok (.invokevirtual 303, 3) := by decide +kernel
theorem dX13_behindTest_54 : decode cX13_behindTest 54 = .ok (.aload_n 0, 1) := by decide +kernel
theorem dX13_behindTest_55 : decode cX13_behindTest 55 = .ok (.iload_n 1, 1) := by decide +kernel
theorem dX13_behindTest_56 : decode cX13_behindTest 56 = .ok (.ifCond .eq 8, 3) := by decide +kernel
theorem dX13_behindTest_59 : decode cX13_behindTest 59 = .ok (.bipush 29, 2) := by decide +kernel
theorem dX13_behindTest_61 : decode cX13_behindTest 61 = .ok (.goto 5, 3) := by decide +kernel
theorem dX13_behindTest_66 : decode cX13_behindTest 66 = .ok (.iconst 0, 1) := by decide +kernel
theorem dX13_behindTest_67 : decode cX13_behindTest 67 = .ok (.invokevirtual 284, 3) := by decide +kernel
theorem dX13_behindTest_70 : decode cX13_behindTest 70 = .ok (.aload_n 0, 1) := by decide +kernel
theorem dX13_behindTest_71 : decode cX13_behindTest 71 = .ok (.invokevirtual 240, 3) := by decide +kernel
theorem dX13_behindTest_74 : decode cX13_behindTest 74 = .ok (.iconst 0, 1) := by decide +kernel
theorem dX13_behindTest_75 : decode cX13_behindTest 75 = .ok (.ireturn, 1) := by decide +kernel
theorem dX13_behindTest_12 : decode cX13_behindTest 12 = .ok (.aload_n 0, 1) := by decide +kernel
theorem dX13_behindTest_13 : decode cX13_behindTest 13 = .ok (.ldc2_w 354, 3) := by decide +kernel
theorem dX13_behindTest_16 : decode cX13_behindTest 16 = .ok (.invokevirtual 296, 3) := by decide +kernel
theorem dX13_behindTest_19 : decode cX13_behindTest 19 = .ok (.ifCond .eq 57, 3) := by decide +kernel
theorem dX13_behindTest_76 : decode cX13_behindTest 76 = .ok (.aload_n 0, 1) := by decide +kernel
theorem dX13_behindTest_77 : decode cX13_behindTest 77 = .ok (.invokevirtual 345, 3) := by decide +kernel
theorem dX13_behindTest_80 : decode cX13_behindTest 80 = .ok (.iconst (-1), 1) := by decide +kernel
theorem dX13_behindTest_81 : decode cX13_behindTest 81 = .ok (.if_icmp .ne 5, 3) := by decide +kernel
theorem dX13_behindTest_86 : decode cX13_behindTest 86 = .ok (.aload_n 0, 1) := by decide +kernel
theorem dX13_behindTest_87 : decode cX13_behindTest 87 = .ok (.aload_n 0, 1) := by decide +kernel
theorem dX13_behindTest_88 : decode cX13_behindTest 88 = .ok (.bipush 41, 2) := by decide +kernel
theorem dX13_behindTest_90 : decode cX13_behindTest 90 = .ok (.invokevirtual 309, 3) := by decide +kernel
theorem dX13_behindTest_93 : decode cX13_behindTest 93 = .ok (.invokevirtual 271, 3) := by decide +kernel
theorem dX13_behindTest_96 : decode cX13_behindTest 96 = .ok (.aload_n 0, 1) := by decide +kernel
theorem dX13_behindTest_97 : decode cX13_behindTest 97 = .ok (.getfield 236, 3) := by decide +kernel
theorem dX13_behindTest_100 : decode cX13_behindTest 100 = .ok (.ifCond .ne 28, 3) := by decide +kernel
theorem dX13_behindTest_128 : decode cX13_behindTest 128 = .ok (.iconst 2, 1) := by decide +kernel
theorem dX13_behindTest_129 : decode cX13_behindTest 129 = .ok (.ireturn, 1) := by decide +kernel
theorem dX13_behindTest_103 : decode cX13_behindTest 103 = .ok (.aload_n 0, 1) := by decide +kernel
theorem dX13_behindTest_104 : decode cX13_behindTest 104 = .ok (.iconst 1, 1) := by decide +kernel
theorem dX13_behindTest_105 : decode cX13_behindTest 105 = .ok (.invokevirtual 342, 3) := by decide +kernel
theorem dX13_behindTest_108 : decode cX13_behindTest 108 = .ok (.aload_n 0, 1) := by decide +kernel
theorem dX13_behindTest_109 : decode cX13_behindTest 109 = .ok (.dup, 1) := by decide +kernel
theorem dX13_behindTest_110 : decode cX13_behindTest 110 = .ok (.getfield 278, 3) := by decide +kernel
theorem dX13_behindTest_113 : decode cX13_behindTest 113 = .ok (.iconst 1, 1) := by decide +kernel
theorem dX13_behindTest_114 : decode cX13_behindTest 114 = .ok (.isub, 1) := by decide +kernel
theorem dX13_behindTest_115 : decode cX13_behindTest 115 = .ok (.putfield 278, 3) := by decide +kernel
theorem dX13_behindTest_118 : decode cX13_behindTest 118 = .ok (.aload_n 0, 1) := by decide +kernel
theorem dX13_behindTest_119 : decode cX13_behindTest 119 = .ok (.dup, 1) := by decide +kernel
theorem dX13_behindTest_120 : decode cX13_behindTest 120 = .ok (.getfield 300, 3) := by decide +kernel
theorem dX13_behindTest_123 : decode cX13_behindTest 123 = .ok (.iconst 1, 1) := by decide +kernel
theorem dX13_behindTest_124 : decode cX13_behindTest 124 = .ok (.isub, 1) := by decide +kernel
theorem dX13_behindTest_125 : decode cX13_behindTest 125 = .ok (.putfield 300, 3) := by decide +kernel
theorem dX13_behindTest_84 : decode cX13_behindTest 84 = .ok (.iconst 4, 1) := by decide +kernel
theorem dX13_behindTest_85 : decode cX13_behindTest 85 = .ok (.ireturn, 1) := by decide +kernel
theorem dX13_behindTest_31 : decode cX13_behindTest 31 = .ok (.iconst 1, 1) := by decide +kernel
theorem dX13_behindTest_45 : decode cX13_behindTest 45 = .ok (.bipush 30, 2) := by decide +kernel
theorem dX13_behindTest_64 : decode cX13_behindTest 64 = .ok (.bipush 30, 2) := by decide +kernel
set_option maxHeartbeats 4000000 in
set_option maxRecDepth 100000 in
theorem k_X13_behindTest (l : Launch) (D : va_G) (cy : Nat → ClassId) (ld ad : Nat → Nat) (am : Nat) (hD : mz_D ad am) (Fa : Nat → Int32) (Ga : Nat → Int64) (Ra : Nat → Nat → Int32) (Sa : Nat → Nat → Int64) (gf : Int32) (gt : Int32) (gs : Int32) (gp : Int32) (gw : Int64) (gb : Int32) (gc : Int32) (gd : Int32) (zs : Nat) (hIF : mz_IF false Fa) (hIG : mz_IG Ga) (hIR : mz_IR [] true Ra) (hg_0 : Fa 14 = gf) (hg_1 : Fa 15 = gt) (hg_2 : Fa 16 = gs) (hg_3 : Fa 13 = gp) (hg_4 : Ga 17 = gw) (hg_5 : Fa 19 = gb) (hg_6 : Fa 23 = gc) (hg_7 : Fa 29 = gd) (hp_0 : 0 ≤ (-1) * gf.toInt + gt.toInt) (hp_1 : 0 ≤ gp.toInt + (-1) * gt.toInt) (hp_2 : (1 ≤ gs.toInt → 0 ≤ (-1) * gf.toInt + gt.toInt + (-1))) (hp_3 : (27 ≤ gw.toInt → 1 ≤ gs.toInt → gs.toInt ≤ 1 → 0 ≤ (-1) * gf.toInt + gt.toInt + (-2))) (hp_4 : 0 ≤ (-1) * gc.toInt + (-1) * gd.toInt + gf.toInt) (hp_5 : gb.toInt ≤ 0) (hx_0 : PT (Ra 24) (Ra 25) (Ra 27) (Ra 28) zs gc.toInt.toNat gd.toInt.toNat 2) : Met l yX13_behindTest (wl yX13_behindTest cX13_behindTest 2 (some .int)) ({ frames := 6, cells := 0, slots := 0, locals := 350 }) (mz_p D cy ld ad am Fa Ga Ra Sa [.ref am]) (mz_i D cy ad am (fun r F G R S => mz_IF false F ∧ mz_IG G ∧ mz_IR [] true R ∧ (∀ k : Nat, k ∉ ([14, 15, 16, 18, 19, 23, 29, 30] : List Nat) → F k = Fa k) ∧ (∀ k : Nat, k ∉ ([24, 25, 27, 28] : List Nat) → R k = Ra k) ∧ (∀ k : Nat, k ∉ ([17] : List Nat) → G k = Ga k) ∧ 0 ≤ (-1) * (F 14).toInt + (F 15).toInt ∧ 0 ≤ gp.toInt + (-1) * (F 15).toInt ∧ (1 ≤ (F 16).toInt → 0 ≤ (-1) * (F 14).toInt + (F 15).toInt + (-1)) ∧ (27 ≤ (G 17).toInt → 1 ≤ (F 16).toInt → (F 16).toInt ≤ 1 → 0 ≤ (-1) * (F 14).toInt + (F 15).toInt + (-2)) ∧ 0 ≤ (-1) * gf.toInt + (F 14).toInt ∧ 0 ≤ (-1) * (F 23).toInt + (-1) * (F 29).toInt + (F 14).toInt ∧ 0 ≤ (-1) * gc.toInt + (F 23).toInt ∧ ((F 19).toInt ≤ 0 → r.toInt ≤ 3 → 0 ≤ (-1) * gf.toInt + (F 14).toInt + (-1)) ∧ 0 ≤ r.toInt ∧ r.toInt ≤ 4 ∧ ((F 19).toInt = 0 → PT (R 24) (R 25) (R 27) (R 28) zs (F 23).toInt.toNat (F 29).toInt.toNat r.toInt ∧ low zs (Ra 24) (R 24) ∧ low zs (Ra 25) (R 25)))) 0 0 (mz_W ad am) := by
  refine mz_met (y := yX13_behindTest) (cc := cX13_behindTest) (maxL := 2) (ret := (some .int)) (av := [.ref am]) _ (by decide) (Nat.le_of_ble_eq_true rfl) ?_
  intro p e s m args below meth c hx hb hr hml hts htl hown hlocks hK H locs hM hS ls hl
  have hown : s.vm.findClass RX13 = some m.cls := hown
  have hl : lv_has ls 2 [(0, .ref am)] := hl
  have hq_gf := tk_rng gf
  have hq_gt := tk_rng gt
  have hq_gs := tk_rng gs
  have hq_gp := tk_rng gp
  have hq_gw := tk_rngL gw
  have hq_gb := tk_rng gb
  have hq_gc := tk_rng gc
  have hq_gd := tk_rng gd
  have hr_gf : 0 ≤ gf.toInt ∧ gf.toInt ≤ 400 := hIF.at hg_0
  have hr_gt : 0 ≤ gt.toInt ∧ gt.toInt ≤ 400 := hIF.at hg_1
  have hr_gs : 0 ≤ gs.toInt ∧ gs.toInt ≤ 3 := hIF.at hg_2
  have hr_gp : 0 ≤ gp.toInt ∧ gp.toInt ≤ 400 := hIF.at hg_3
  have hr_gb : 0 ≤ gb.toInt ∧ gb.toInt ≤ 1 := hIF.at hg_5
  have hr_gc : 0 ≤ gc.toInt ∧ gc.toInt ≤ 400 := hIF.at hg_6
  have hr_gd : 0 ≤ gd.toInt ∧ gd.toInt ≤ 400 := hIF.at hg_7
  have hPI : PI (Ra 24) (Ra 25) (Ra 27) (Ra 28) zs gc.toInt.toNat gd.toInt.toNat 1 := hx_0.p (by decide)
  have hLo := And.intro (low.refl zs (Ra 24)) (low.refl zs (Ra 25))
  have hSq : nSq (Ra 27) gd.toInt.toNat := hx_0.2.1 (by decide)
  refine lv_aload_n hx hb dX13_behindTest_0 rfl (lv_at hl 0 rfl) ?_
  refine lv_ldc2 hx hb hown (htl _ mw_790) dX13_behindTest_1 ?_
  have hk_1476 : (1476 : Int64).toInt = 1476 := by decide
  refine mz_Vj (As := [.long 1476]) (rest := []) ⟨hx, hb, hml, hown, hts⟩ hK hM hS (k_X13_isWord l D cy ld ad am hD _ _ _ _ 1476 gs gw hIF hIG hIR hg_2 hg_4) ⟨callB_of 1 hts (wl_in mw_709) rfl rfl rfl (htl _ mw_5) (htl _ mw_706) hd_yX13_isWord ⟨(Nat.le_of_ble_eq_true rfl), (Nat.le_of_ble_eq_true rfl)⟩, htl _ mw_707, htl _ mw_708⟩ rfl hl.1 rfl (Nat.le_of_ble_eq_true rfl) dX13_behindTest_4 ⟨(Nat.le_of_ble_eq_true rfl), (Nat.le_of_ble_eq_true rfl)⟩ (fun v1 H locs hpo hM hS => ?_)
  obtain ⟨hpo2, hpo3, hpo4, hpo5, hpo6⟩ := hpo
  have hq_v1 := tk_rng v1
  refine lv_istore_n (lv' := [(1, .int v1), (0, .ref am)]) hx hb dX13_behindTest_7 rfl hl (by decide) rfl (fun ls hl => ?_)
  refine lv_iload_n hx hb dX13_behindTest_8 rfl (lv_at hl 0 rfl) ?_
  refine lv_if_ne (tgt := 22) hx hb dX13_behindTest_9 (by decide) (fun c9 => ?_) (fun c9 => ?_)
  · have hc8 : ¬ (v1.toInt = 0) := fun h9 => c9 ((fi_eq rfl (show (0 : Int32).toInt = 0 by decide)).mpr h9)
    have hwk_9 : gw.toInt + (-1476) = 0 ∧ gs.toInt + (-1) = 0 := by omega
    have hwk_10 : 0 ≤ (-1) * gf.toInt + gt.toInt + (-1) := by omega
    have hwk_11 : 0 ≤ (-1) * gf.toInt + gt.toInt + (-2) := by omega
    refine lv_aload_n hx hb dX13_behindTest_22 rfl (lv_at hl 1 rfl) ?_
    refine lv_iload_n hx hb dX13_behindTest_23 rfl (lv_at hl 0 rfl) ?_
    refine lv_if_eq (tgt := 31) hx hb dX13_behindTest_24 (by decide) (fun c9 => absurd (show v1.toInt = 0 from (fi_eq rfl (show (0 : Int32).toInt = 0 by decide)).mp c9) (by omega)) (fun _ => ?_)
    refine lv_iconst (v := 2) hx hb dX13_behindTest_27 (by decide) ?_
    refine lv_goto (tgt := 32) hx hb dX13_behindTest_28 (by decide) ?_
    have hk_2 : (2 : Int32).toInt = 2 := by decide
    refine mz_Vv (As := [.int 2]) (rest := []) ⟨hx, hb, hml, hown, hts⟩ hK hM hS (k_X13_settle l D cy ld ad am hD _ _ _ _ 2 gc gd gb zs hIF hIG hIR hg_6 hg_7 hg_5 (by omega) (by omega) (by omega) (fun _ => hPI)) ⟨callB_of 1 hts (wl_in mw_773) rfl rfl rfl (htl _ mw_5) (htl _ mw_770) hd_yX13_settle ⟨(Nat.le_of_ble_eq_true rfl), (Nat.le_of_ble_eq_true rfl)⟩, htl _ mw_771, htl _ mw_772⟩ rfl hl.1 rfl (Nat.le_of_ble_eq_true rfl) dX13_behindTest_32 ⟨(Nat.le_of_ble_eq_true rfl), (Nat.le_of_ble_eq_true rfl)⟩ (fun H locs F G R S hpo hM hS => ?_)
    obtain ⟨hIF, hIG, hIR, hfr9, hrr9, hgr9, hpo12, hpo13, hpo14, hx15, hx16, hx17⟩ := hpo
    have hFF := mz_fr (K := [14, 15, 16, 18, 19, 23, 29, 30]) (Fa := Fa) hfr9 (fun _ _ => rfl) (by decide)
    have hRR := mz_fr (K := [24, 25, 27, 28]) (Fa := Ra) hrr9 (fun _ _ => rfl) (by decide)
    have hGG := mz_fr (K := [17]) (Fa := Ga) hgr9 (fun _ _ => rfl) (by decide)
    have hg_0 := (hfr9 14 (by decide)).trans hg_0
    have hg_1 := (hfr9 15 (by decide)).trans hg_1
    have hg_2 := (hfr9 16 (by decide)).trans hg_2
    have hg_3 := (hfr9 13 (by decide)).trans hg_3
    have hg_4 := (hgr9 17 (by decide)).trans hg_4
    have hg_5 := (hfr9 19 (by decide)).trans hg_5
    obtain ⟨v20, hf19⟩ : ∃ z : Int32, F 23 = z := ⟨_, rfl⟩
    have hq_v20 := tk_rng v20
    rw [hf19] at hpo12 hpo14
    have hr_v20 : 0 ≤ v20.toInt ∧ v20.toInt ≤ 400 := hIF.at hf19
    obtain ⟨v22, hf21⟩ : ∃ z : Int32, F 29 = z := ⟨_, rfl⟩
    have hq_v22 := tk_rng v22
    rw [hf21] at hpo12 hpo13
    have hr_v22 : 0 ≤ v22.toInt ∧ v22.toInt ≤ 400 := hIF.at hf21
    have hs9 := hx15 (by omega)
    rw [hf19, hf21] at hs9
    have hPI : PI (R 24) (R 25) (R 27) (R 28) zs v20.toInt.toNat v22.toInt.toNat 1 := hs9.1
    have hLo := And.intro (hLo.1.trans hs9.2.1 (Nat.le_refl _)) (hLo.2.trans hs9.2.2 (Nat.le_refl _))
    rw [hf21] at hx16 hx17
    have hsb := hx16
    have hst := hx17
    have hSq := hSq.to (pd1 := v22.toInt.toNat) (hrr9 27 (by decide)) (by omega)
    refine lv_aload_n hx hb dX13_behindTest_35 rfl (lv_at hl 1 rfl) ?_
    refine lv_iload_n hx hb dX13_behindTest_36 rfl (lv_at hl 0 rfl) ?_
    refine lv_if_eq (tgt := 45) hx hb dX13_behindTest_37 (by decide) (fun c9 => absurd (show v1.toInt = 0 from (fi_eq rfl (show (0 : Int32).toInt = 0 by decide)).mp c9) (by omega)) (fun _ => ?_)
    refine lv_bipush (v := 29) hx hb dX13_behindTest_40 (by decide) ?_
    refine lv_goto (tgt := 47) hx hb dX13_behindTest_42 (by decide) ?_
    refine lv_aload_n hx hb dX13_behindTest_47 rfl (lv_at hl 1 rfl) ?_
    refine mz_getI hx hb htl hown hK hM 23 (Nat.le_of_ble_eq_true rfl) rfl (htl _ mw_670) (fun _ h9 => h9) dX13_behindTest_48 (fun v9 e9 => ?_)
    refine fx_ti (v := v20) (e9.symm.trans hf19) ?_
    have hk_29 : (29 : Int32).toInt = 29 := by decide
    refine mz_Vv (As := [.int 29, .int v20]) (rest := []) ⟨hx, hb, hml, hown, hts⟩ hK hM hS (k_X13_push l D cy ld ad am hD _ _ _ _ 29 v20 v22 hIF hIG hIR hf21 (by omega) (by omega) (by omega)) ⟨callB_of 2 hts (wl_in mw_728) rfl rfl rfl (htl _ mw_5) (htl _ mw_725) hd_yX13_push ⟨(Nat.le_of_ble_eq_true rfl), (Nat.le_of_ble_eq_true rfl)⟩, htl _ mw_726, htl _ mw_727⟩ rfl hl.1 rfl (Nat.le_of_ble_eq_true rfl) dX13_behindTest_51 ⟨(Nat.le_of_ble_eq_true rfl), (Nat.le_of_ble_eq_true rfl)⟩ (fun H locs F G R S hpo hM hS => ?_)
    obtain ⟨hIF, hIG, hIR, hfr9, hrr9, hgr9, hpo23, hx24, hx25⟩ := hpo
    have hFF := mz_fr (K := [14, 15, 16, 18, 19, 23, 29, 30]) (Fa := Fa) hfr9 hFF (by decide)
    have hRR := mz_fr (K := [24, 25, 27, 28]) (Fa := Ra) hrr9 hRR (by decide)
    have hGG := mz_fr (K := [17]) (Fa := Ga) hgr9 hGG (by decide)
    have hg_0 := (hfr9 14 (by decide)).trans hg_0
    have hg_1 := (hfr9 15 (by decide)).trans hg_1
    have hg_2 := (hfr9 16 (by decide)).trans hg_2
    have hg_3 := (hfr9 13 (by decide)).trans hg_3
    have hg_4 := (hgr9 17 (by decide)).trans hg_4
    have hg_5 := (hfr9 19 (by decide)).trans hg_5
    have hf19 := (hfr9 23 (by decide)).trans hf19
    obtain ⟨v28, hf27⟩ : ∃ z : Int32, F 29 = z := ⟨_, rfl⟩
    have hq_v28 := tk_rng v28
    rw [hf27] at hpo23
    have hr_v28 : 0 ≤ v28.toInt ∧ v28.toInt ≤ 400 := hIF.at hf27
    have hq27 : R 27 = _ := hx24
    have hq28 : R 28 = _ := hx25
    have hPI := hPI.to (hrr9 24 (by decide)) (hrr9 25 (by decide)) rfl rfl rfl rfl
    have hLo := And.intro (hLo.1.to (hrr9 24 (by decide))) (hLo.2.to (hrr9 25 (by decide)))
    refine lv_aload_n hx hb dX13_behindTest_54 rfl (lv_at hl 1 rfl) ?_
    refine lv_iload_n hx hb dX13_behindTest_55 rfl (lv_at hl 0 rfl) ?_
    refine lv_if_eq (tgt := 64) hx hb dX13_behindTest_56 (by decide) (fun c9 => absurd (show v1.toInt = 0 from (fi_eq rfl (show (0 : Int32).toInt = 0 by decide)).mp c9) (by omega)) (fun _ => ?_)
    refine lv_bipush (v := 29) hx hb dX13_behindTest_59 (by decide) ?_
    refine lv_goto (tgt := 66) hx hb dX13_behindTest_61 (by decide) ?_
    refine lv_iconst (v := 0) hx hb dX13_behindTest_66 (by decide) ?_
    have hk_29 : (29 : Int32).toInt = 29 := by decide
    have hk_0 : (0 : Int32).toInt = 0 := by decide
    refine mz_Vv (As := [.int 29, .int 0]) (rest := []) ⟨hx, hb, hml, hown, hts⟩ hK hM hS (k_X13_emit l D cy ld ad am hD _ _ _ _ 29 0 v20 hIF hIG hIR hf19 (by omega)) ⟨callB_of 2 hts (wl_in mw_758) rfl rfl rfl (htl _ mw_5) (htl _ mw_755) hd_yX13_emit ⟨(Nat.le_of_ble_eq_true rfl), (Nat.le_of_ble_eq_true rfl)⟩, htl _ mw_756, htl _ mw_757⟩ rfl hl.1 rfl (Nat.le_of_ble_eq_true rfl) dX13_behindTest_67 ⟨(Nat.le_of_ble_eq_true rfl), (Nat.le_of_ble_eq_true rfl)⟩ (fun H locs F G R S hpo hM hS => ?_)
    obtain ⟨hIF, hIG, hIR, hfr9, hrr9, hgr9, hpo29, hx30, hx31⟩ := hpo
    have hFF := mz_fr (K := [14, 15, 16, 18, 19, 23, 29, 30]) (Fa := Fa) hfr9 hFF (by decide)
    have hRR := mz_fr (K := [24, 25, 27, 28]) (Fa := Ra) hrr9 hRR (by decide)
    have hGG := mz_fr (K := [17]) (Fa := Ga) hgr9 hGG (by decide)
    have hg_0 := (hfr9 14 (by decide)).trans hg_0
    have hg_1 := (hfr9 15 (by decide)).trans hg_1
    have hg_2 := (hfr9 16 (by decide)).trans hg_2
    have hg_3 := (hfr9 13 (by decide)).trans hg_3
    have hg_4 := (hgr9 17 (by decide)).trans hg_4
    have hg_5 := (hfr9 19 (by decide)).trans hg_5
    have hf27 := (hfr9 29 (by decide)).trans hf27
    obtain ⟨v34, hf33⟩ : ∃ z : Int32, F 23 = z := ⟨_, rfl⟩
    have hq_v34 := tk_rng v34
    rw [hf33] at hpo29
    have hr_v34 : 0 ≤ v34.toInt ∧ v34.toInt ≤ 400 := hIF.at hf33
    have hz9 := hPI.1
    have hPI : PI (R 24) (R 25) (R 27) (R 28) zs v34.toInt.toNat v28.toInt.toNat 0 := (PI.andor (o := 29) hPI (by decide) (by decide) hSq (show v20.toInt = _ by omega) hq27 hq28 hx30 hx31).to rfl rfl (hrr9 27 (by decide)) (hrr9 28 (by decide)) (by omega) (by omega)
    have hLo := And.intro ((hLo.1.upd hz9).to hx30) ((hLo.2.upd hz9).to hx31)
    have hSq : nSq (R 27) v28.toInt.toNat := (hSq.push hq27 (by decide)).to (hrr9 27 (by decide)) (by omega)
    refine lv_aload_n hx hb dX13_behindTest_70 rfl (lv_at hl 1 rfl) ?_
    refine mz_Vv (As := []) (rest := []) ⟨hx, hb, hml, hown, hts⟩ hK hM hS (k_X13_next l D cy ld ad am hD _ _ _ _ gt gp hIF hIG hIR hg_1 hg_3 (by omega)) ⟨callB_of 0 hts (wl_in mw_685) rfl rfl rfl (htl _ mw_5) (htl _ mw_682) hd_yX13_next ⟨(Nat.le_of_ble_eq_true rfl), (Nat.le_of_ble_eq_true rfl)⟩, htl _ mw_683, htl _ mw_684⟩ rfl hl.1 rfl (Nat.le_of_ble_eq_true rfl) dX13_behindTest_71 ⟨(Nat.le_of_ble_eq_true rfl), (Nat.le_of_ble_eq_true rfl)⟩ (fun H locs F G R S hpo hM hS => ?_)
    obtain ⟨hIF, hIG, hIR, hfr9, hrr9, hgr9, hpo35, hpo36, hpo37, hpo38, hpo39⟩ := hpo
    have hFF := mz_fr (K := [14, 15, 16, 18, 19, 23, 29, 30]) (Fa := Fa) hfr9 hFF (by decide)
    have hRR := mz_fr (K := [24, 25, 27, 28]) (Fa := Ra) hrr9 hRR (by decide)
    have hGG := mz_fr (K := [17]) (Fa := Ga) hgr9 hGG (by decide)
    have hg_3 := (hfr9 13 (by decide)).trans hg_3
    have hg_5 := (hfr9 19 (by decide)).trans hg_5
    have hf27 := (hfr9 29 (by decide)).trans hf27
    have hf33 := (hfr9 23 (by decide)).trans hf33
    obtain ⟨v42, hf41⟩ : ∃ z : Int32, F 14 = z := ⟨_, rfl⟩
    have hq_v42 := tk_rng v42
    rw [hf41] at hpo35 hpo36 hpo38 hpo39
    have hr_v42 : 0 ≤ v42.toInt ∧ v42.toInt ≤ 400 := hIF.at hf41
    obtain ⟨v44, hf43⟩ : ∃ z : Int32, F 15 = z := ⟨_, rfl⟩
    have hq_v44 := tk_rng v44
    rw [hf43] at hpo36 hpo37 hpo38 hpo39
    have hr_v44 : 0 ≤ v44.toInt ∧ v44.toInt ≤ 400 := hIF.at hf43
    obtain ⟨v46, hf45⟩ : ∃ z : Int32, F 16 = z := ⟨_, rfl⟩
    have hq_v46 := tk_rng v46
    rw [hf45] at hpo38 hpo39
    have hr_v46 : 0 ≤ v46.toInt ∧ v46.toInt ≤ 3 := hIF.at hf45
    obtain ⟨w48, hf47⟩ : ∃ z : Int64, G 17 = z := ⟨_, rfl⟩
    have hq_w48 := tk_rngL w48
    rw [hf47] at hpo39
    have hPI := hPI.to (hrr9 24 (by decide)) (hrr9 25 (by decide)) (hrr9 27 (by decide)) (hrr9 28 (by decide)) rfl rfl
    have hLo := And.intro (hLo.1.to (hrr9 24 (by decide))) (hLo.2.to (hrr9 25 (by decide)))
    have hSq := hSq.to (hrr9 27 (by decide)) (Nat.le_refl _)
    refine lv_iconst (v := 0) hx hb dX13_behindTest_74 (by decide) ?_
    have hk_0 : (0 : Int32).toInt = 0 := by decide
    exact mz_iret (v := 0) hx hb hr rfl hlocks ⟨hIF, hIG, hIR, hFF, hRR, hGG, (by rw [hf41, hf43]; omega), (by rw [hf43]; omega), (by rw [hf41, hf43, hf45]; omega), (by rw [hf41, hf43, hf45, hf47]; omega), (by rw [hf41]; omega), (by rw [hf41, hf33, hf27]; omega), (by rw [hf33]; omega), (by rw [hf41, hg_5]; omega), (by omega), (by omega), (fun _ => ⟨PT.mk hPI (by decide) (fun _ => hSq) (fun h9 => absurd h9 (by decide)) rfl rfl rfl rfl (by rw [hf33]) (by rw [hf27]), hLo⟩)⟩ hM hS dX13_behindTest_75
  · have hc8 : v1.toInt = 0 := (fi_eq rfl (show (0 : Int32).toInt = 0 by decide)).mp c9
    refine lv_aload_n hx hb dX13_behindTest_12 rfl (lv_at hl 1 rfl) ?_
    refine lv_ldc2 hx hb hown (htl _ mw_791) dX13_behindTest_13 ?_
    have hk_498 : (498 : Int64).toInt = 498 := by decide
    refine mz_Vj (As := [.long 498]) (rest := []) ⟨hx, hb, hml, hown, hts⟩ hK hM hS (k_X13_isWord l D cy ld ad am hD _ _ _ _ 498 gs gw hIF hIG hIR hg_2 hg_4) ⟨callB_of 1 hts (wl_in mw_709) rfl rfl rfl (htl _ mw_5) (htl _ mw_706) hd_yX13_isWord ⟨(Nat.le_of_ble_eq_true rfl), (Nat.le_of_ble_eq_true rfl)⟩, htl _ mw_707, htl _ mw_708⟩ rfl hl.1 rfl (Nat.le_of_ble_eq_true rfl) dX13_behindTest_16 ⟨(Nat.le_of_ble_eq_true rfl), (Nat.le_of_ble_eq_true rfl)⟩ (fun v49 H locs hpo hM hS => ?_)
    obtain ⟨hpo50, hpo51, hpo52, hpo53, hpo54⟩ := hpo
    have hq_v49 := tk_rng v49
    refine lv_if_eq (tgt := 76) hx hb dX13_behindTest_19 (by decide) (fun c9 => ?_) (fun c9 => ?_)
    · have hc56 : v49.toInt = 0 := (fi_eq rfl (show (0 : Int32).toInt = 0 by decide)).mp c9
      refine lv_aload_n hx hb dX13_behindTest_76 rfl (lv_at hl 1 rfl) ?_
      refine mz_Vj (As := []) (rest := []) ⟨hx, hb, hml, hown, hts⟩ hK hM hS (k_X13_inner l D cy ld ad am hD _ _ _ _ gd hIF hIG hIR hg_7) ⟨callB_of 0 hts (wl_in mw_777) rfl rfl rfl (htl _ mw_5) (htl _ mw_774) hd_yX13_inner ⟨(Nat.le_of_ble_eq_true rfl), (Nat.le_of_ble_eq_true rfl)⟩, htl _ mw_775, htl _ mw_776⟩ rfl hl.1 rfl (Nat.le_of_ble_eq_true rfl) dX13_behindTest_77 ⟨(Nat.le_of_ble_eq_true rfl), (Nat.le_of_ble_eq_true rfl)⟩ (fun v57 H locs hpo hM hS => ?_)
      have hx58 := hpo
      have hq_v57 := tk_rng v57
      have hinn := hx58
      refine lv_iconst (v := (-1)) hx hb dX13_behindTest_80 (by decide) ?_
      refine lv_icmp_ne (tgt := 86) hx hb dX13_behindTest_81 (by decide) (fun c9 => ?_) (fun c9 => ?_)
      · have hc60 : ¬ (v57.toInt = (-1)) := fun h9 => c9 ((fi_eq rfl (show ((-1) : Int32).toInt = (-1) by decide)).mpr h9)
        refine lv_aload_n hx hb dX13_behindTest_86 rfl (lv_at hl 1 rfl) ?_
        refine lv_aload_n hx hb dX13_behindTest_87 rfl (lv_at hl 1 rfl) ?_
        refine lv_bipush (v := 41) hx hb dX13_behindTest_88 (by decide) ?_
        have hk_41 : (41 : Int32).toInt = 41 := by decide
        refine mz_Vj (As := [.int 41]) (rest := [.ref am]) ⟨hx, hb, hml, hown, hts⟩ hK hM hS (k_X13_isSign l D cy ld ad am hD _ _ _ _ 41 gs hIF hIG hIR hg_2) ⟨callB_of 1 hts (wl_in mw_732) rfl rfl rfl (htl _ mw_5) (htl _ mw_729) hd_yX13_isSign ⟨(Nat.le_of_ble_eq_true rfl), (Nat.le_of_ble_eq_true rfl)⟩, htl _ mw_730, htl _ mw_731⟩ rfl hl.1 rfl (Nat.le_of_ble_eq_true rfl) dX13_behindTest_90 ⟨(Nat.le_of_ble_eq_true rfl), (Nat.le_of_ble_eq_true rfl)⟩ (fun v61 H locs hpo hM hS => ?_)
        obtain ⟨hpo62, hpo63, hpo64, hpo65, hpo66⟩ := hpo
        have hq_v61 := tk_rng v61
        refine mz_Vv (As := [.int v61]) (rest := []) ⟨hx, hb, hml, hown, hts⟩ hK hM hS (k_X13_must l D cy ld ad am hD _ _ _ _ v61 gf gt gs gp gw gb hIF hIG hIR hg_0 hg_1 hg_2 hg_3 hg_4 hg_5 (by omega) (by omega) (by omega) (by omega) (by omega) (by omega)) ⟨callB_of 1 hts (wl_in mw_713) rfl rfl rfl (htl _ mw_5) (htl _ mw_710) hd_yX13_must ⟨(Nat.le_of_ble_eq_true rfl), (Nat.le_of_ble_eq_true rfl)⟩, htl _ mw_711, htl _ mw_712⟩ rfl hl.1 rfl (Nat.le_of_ble_eq_true rfl) dX13_behindTest_93 ⟨(Nat.le_of_ble_eq_true rfl), (Nat.le_of_ble_eq_true rfl)⟩ (fun H locs F G R S hpo hM hS => ?_)
        obtain ⟨hIF, hIG, hIR, hfr9, hrr9, hgr9, hpo68, hpo69, hpo70, hpo71, hpo72, hpo73, hpo74, hpo75⟩ := hpo
        have hFF := mz_fr (K := [14, 15, 16, 18, 19, 23, 29, 30]) (Fa := Fa) hfr9 (fun _ _ => rfl) (by decide)
        have hRR := mz_fr (K := [24, 25, 27, 28]) (Fa := Ra) hrr9 (fun _ _ => rfl) (by decide)
        have hGG := mz_fr (K := [17]) (Fa := Ga) hgr9 (fun _ _ => rfl) (by decide)
        have hg_3 := (hfr9 13 (by decide)).trans hg_3
        have hg_6 := (hfr9 23 (by decide)).trans hg_6
        have hg_7 := (hfr9 29 (by decide)).trans hg_7
        obtain ⟨v78, hf77⟩ : ∃ z : Int32, F 14 = z := ⟨_, rfl⟩
        have hq_v78 := tk_rng v78
        rw [hf77] at hpo68 hpo70 hpo71 hpo72 hpo74
        have hr_v78 : 0 ≤ v78.toInt ∧ v78.toInt ≤ 400 := hIF.at hf77
        obtain ⟨v80, hf79⟩ : ∃ z : Int32, F 15 = z := ⟨_, rfl⟩
        have hq_v80 := tk_rng v80
        rw [hf79] at hpo68 hpo69 hpo70 hpo71
        have hr_v80 : 0 ≤ v80.toInt ∧ v80.toInt ≤ 400 := hIF.at hf79
        obtain ⟨v82, hf81⟩ : ∃ z : Int32, F 16 = z := ⟨_, rfl⟩
        have hq_v82 := tk_rng v82
        rw [hf81] at hpo70 hpo71
        have hr_v82 : 0 ≤ v82.toInt ∧ v82.toInt ≤ 3 := hIF.at hf81
        obtain ⟨w84, hf83⟩ : ∃ z : Int64, G 17 = z := ⟨_, rfl⟩
        have hq_w84 := tk_rngL w84
        rw [hf83] at hpo71
        obtain ⟨v86, hf85⟩ : ∃ z : Int32, F 19 = z := ⟨_, rfl⟩
        have hq_v86 := tk_rng v86
        rw [hf85] at hpo73 hpo74 hpo75
        have hr_v86 : 0 ≤ v86.toInt ∧ v86.toInt ≤ 1 := hIF.at hf85
        have hPI := hPI.to (hrr9 24 (by decide)) (hrr9 25 (by decide)) (hrr9 27 (by decide)) (hrr9 28 (by decide)) rfl rfl
        have hLo := And.intro (hLo.1.to (hrr9 24 (by decide))) (hLo.2.to (hrr9 25 (by decide)))
        have hSq := hSq.to (hrr9 27 (by decide)) (Nat.le_refl _)
        have hinn0 := hinn
        have hinn : inn (R 27) gd.toInt.toNat v57.toInt := by rw [hrr9 27 (by decide)]; exact hinn0
        refine lv_aload_n hx hb dX13_behindTest_96 rfl (lv_at hl 1 rfl) ?_
        refine mz_getI hx hb htl hown hK hM 19 (Nat.le_of_ble_eq_true rfl) rfl (htl _ mw_668) (fun _ h9 => h9) dX13_behindTest_97 (fun v9 e9 => ?_)
        refine fx_ti (v := v86) (e9.symm.trans hf85) ?_
        refine lv_if_ne (tgt := 128) hx hb dX13_behindTest_100 (by decide) (fun c9 => ?_) (fun c9 => ?_)
        · have hc87 : ¬ (v86.toInt = 0) := fun h9 => c9 ((fi_eq rfl (show (0 : Int32).toInt = 0 by decide)).mpr h9)
          refine lv_iconst (v := 2) hx hb dX13_behindTest_128 (by decide) ?_
          have hk_2 : (2 : Int32).toInt = 2 := by decide
          exact mz_iret (v := 2) hx hb hr rfl hlocks ⟨hIF, hIG, hIR, hFF, hRR, hGG, (by rw [hf77, hf79]; omega), (by rw [hf79]; omega), (by rw [hf77, hf79, hf81]; omega), (by rw [hf77, hf79, hf81, hf83]; omega), (by rw [hf77]; omega), (by rw [hf77, hg_6, hg_7]; omega), (by rw [hg_6]; omega), (by rw [hf77, hf85]; omega), (by omega), (by omega), (by rw [hf85]; exact fun h9 => absurd h9 (by omega))⟩ hM hS dX13_behindTest_129
        · have hc87 : v86.toInt = 0 := (fi_eq rfl (show (0 : Int32).toInt = 0 by decide)).mp c9
          have hwk_88 : 0 ≤ (-1) * gt.toInt + v78.toInt ∧ 1 ≤ v61.toInt := by omega
          have hwk_89 : gs.toInt + (-3) = 0 := by omega
          have hwk_90 : 0 ≤ (-1) * gf.toInt + gt.toInt + (-1) := by omega
          refine lv_aload_n hx hb dX13_behindTest_103 rfl (lv_at hl 1 rfl) ?_
          refine lv_iconst (v := 1) hx hb dX13_behindTest_104 (by decide) ?_
          have hk_1 : (1 : Int32).toInt = 1 := by decide
          refine mz_Vv (As := [.int 1]) (rest := []) ⟨hx, hb, hml, hown, hts⟩ hK hM hS (k_X13_settle l D cy ld ad am hD _ _ _ _ 1 gc gd v86 zs hIF hIG hIR hg_6 hg_7 hf85 (by omega) (by omega) (by omega) (fun _ => hPI)) ⟨callB_of 1 hts (wl_in mw_773) rfl rfl rfl (htl _ mw_5) (htl _ mw_770) hd_yX13_settle ⟨(Nat.le_of_ble_eq_true rfl), (Nat.le_of_ble_eq_true rfl)⟩, htl _ mw_771, htl _ mw_772⟩ rfl hl.1 rfl (Nat.le_of_ble_eq_true rfl) dX13_behindTest_105 ⟨(Nat.le_of_ble_eq_true rfl), (Nat.le_of_ble_eq_true rfl)⟩ (fun H locs F G R S hpo hM hS => ?_)
          obtain ⟨hIF, hIG, hIR, hfr9, hrr9, hgr9, hpo91, hpo92, hpo93, hx94, hx95, hx96⟩ := hpo
          have hFF := mz_fr (K := [14, 15, 16, 18, 19, 23, 29, 30]) (Fa := Fa) hfr9 hFF (by decide)
          have hRR := mz_fr (K := [24, 25, 27, 28]) (Fa := Ra) hrr9 hRR (by decide)
          have hGG := mz_fr (K := [17]) (Fa := Ga) hgr9 hGG (by decide)
          have hg_3 := (hfr9 13 (by decide)).trans hg_3
          have hf77 := (hfr9 14 (by decide)).trans hf77
          have hf79 := (hfr9 15 (by decide)).trans hf79
          have hf81 := (hfr9 16 (by decide)).trans hf81
          have hf83 := (hgr9 17 (by decide)).trans hf83
          have hf85 := (hfr9 19 (by decide)).trans hf85
          obtain ⟨v99, hf98⟩ : ∃ z : Int32, F 23 = z := ⟨_, rfl⟩
          have hq_v99 := tk_rng v99
          rw [hf98] at hpo91 hpo93
          have hr_v99 : 0 ≤ v99.toInt ∧ v99.toInt ≤ 400 := hIF.at hf98
          obtain ⟨v101, hf100⟩ : ∃ z : Int32, F 29 = z := ⟨_, rfl⟩
          have hq_v101 := tk_rng v101
          rw [hf100] at hpo91 hpo92
          have hr_v101 : 0 ≤ v101.toInt ∧ v101.toInt ≤ 400 := hIF.at hf100
          have hs9 := hx94 (by omega)
          rw [hf98, hf100] at hs9
          have hPI : PI (R 24) (R 25) (R 27) (R 28) zs v99.toInt.toNat v101.toInt.toNat 1 := hs9.1
          have hLo := And.intro (hLo.1.trans hs9.2.1 (Nat.le_refl _)) (hLo.2.trans hs9.2.2 (Nat.le_refl _))
          rw [hf100] at hx95 hx96
          have hsb := hx95
          have hst := hx96
          have hSq := hSq.to (pd1 := v101.toInt.toNat) (hrr9 27 (by decide)) (by omega)
          have hinn0 := hinn
          have hinn : inn (R 27) gd.toInt.toNat v57.toInt := by rw [hrr9 27 (by decide)]; exact hinn0
          have e27 := hrr9 27 (by decide)
          obtain ⟨g1, j9, g2, g3, g4⟩ := hinn0.2 (by omega)
          have h1 := hsb j9 (by omega) (by omega)
          have hd1 : 1 ≤ v101.toInt := by omega
          have htp : 31 ≤ (R 27 (v101.toInt - 1).toNat).toInt := by rw [e27]; exact (hst hd1).1 (by decide)
          have hPI := PI.popbr (pd := (v101.toInt - 1).toNat) (hPI.to rfl rfl rfl rfl rfl (by omega)) htp
          refine lv_aload_n hx hb dX13_behindTest_108 rfl (lv_at hl 1 rfl) ?_
          refine lv_dup hx hb dX13_behindTest_109 rfl ?_
          refine mz_getI hx hb htl hown hK hM 29 (Nat.le_of_ble_eq_true rfl) rfl (htl _ mw_718) (fun _ h9 => h9) dX13_behindTest_110 (fun v9 e9 => ?_)
          refine fx_ti (v := v101) (e9.symm.trans hf100) ?_
          refine lv_iconst (v := 1) hx hb dX13_behindTest_113 (by decide) ?_
          refine lv_isub hx hb dX13_behindTest_114 ?_
          refine tk_sub rfl (show (1 : Int32).toInt = 1 by decide) (by omega) (by omega) (fun v102 h_v102 => ?_)
          refine mz_putI (ty := .int) (x := v102) hx hb htl hown hK hD hM hS 29 (Nat.le_of_ble_eq_true rfl) rfl (htl _ mw_718) (fun _ h9 => h9) rfl (tyX13_ok 29 (by decide)) rfl rfl dX13_behindTest_115 (fun H locs F hM hS hf9 hj9 => ?_)
          have hIF := hIF.put hf9 hj9 (show 0 ≤ (v102 : Int32).toInt by omega) (show (v102 : Int32).toInt ≤ 400 by omega) (by decide)
          have hFF := mz_frp (K := [14, 15, 16, 18, 19, 23, 29, 30]) (Fa := Fa) hj9 hFF (by decide)
          have hg_3 := (hj9 13 (by decide)).trans hg_3
          have hf77 := (hj9 14 (by decide)).trans hf77
          have hf79 := (hj9 15 (by decide)).trans hf79
          have hf81 := (hj9 16 (by decide)).trans hf81
          have hf85 := (hj9 19 (by decide)).trans hf85
          have hf98 := (hj9 23 (by decide)).trans hf98
          have hf104 := hf9
          have hPI : PI (R 24) (R 25) (R 27) (R 28) zs v99.toInt.toNat v102.toInt.toNat 1 := hPI.to rfl rfl rfl rfl rfl (by omega)
          have hSq : nSq (R 27) v102.toInt.toNat := hSq.to rfl (by omega)
          refine lv_aload_n hx hb dX13_behindTest_118 rfl (lv_at hl 1 rfl) ?_
          refine lv_dup hx hb dX13_behindTest_119 rfl ?_
          refine mz_getI hx hb htl hown hK hM 30 (Nat.le_of_ble_eq_true rfl) rfl (htl _ mw_719) (fun _ h9 => h9) dX13_behindTest_120 (fun v106 hf105 => ?_)
          have hq_v106 := tk_rng v106
          refine lv_iconst (v := 1) hx hb dX13_behindTest_123 (by decide) ?_
          refine lv_isub hx hb dX13_behindTest_124 ?_
          obtain ⟨v107, hm_v107⟩ : ∃ z : Int32, v106 - 1 = z := ⟨_, rfl⟩
          refine fx_ti hm_v107 ?_
          refine mz_putI (ty := .int) (x := v107) hx hb htl hown hK hD hM hS 30 (Nat.le_of_ble_eq_true rfl) rfl (htl _ mw_719) (fun _ h9 => h9) rfl (tyX13_ok 30 (by decide)) rfl rfl dX13_behindTest_125 (fun H locs F hM hS hf9 hj9 => ?_)
          have hIF := hIF.put hf9 hj9 (tk_rng _).1 (tk_rng _).2 (by decide)
          have hFF := mz_frp (K := [14, 15, 16, 18, 19, 23, 29, 30]) (Fa := Fa) hj9 hFF (by decide)
          have hg_3 := (hj9 13 (by decide)).trans hg_3
          have hf77 := (hj9 14 (by decide)).trans hf77
          have hf79 := (hj9 15 (by decide)).trans hf79
          have hf81 := (hj9 16 (by decide)).trans hf81
          have hf85 := (hj9 19 (by decide)).trans hf85
          have hf98 := (hj9 23 (by decide)).trans hf98
          have hf104 := (hj9 29 (by decide)).trans hf104
          have hf109 := hf9
          refine lv_iconst (v := 2) hx hb dX13_behindTest_128 (by decide) ?_
          have hk_2 : (2 : Int32).toInt = 2 := by decide
          exact mz_iret (v := 2) hx hb hr rfl hlocks ⟨hIF, hIG, hIR, hFF, hRR, hGG, (by rw [hf77, hf79]; omega), (by rw [hf79]; omega), (by rw [hf77, hf79, hf81]; omega), (by rw [hf77, hf79, hf81, hf83]; omega), (by rw [hf77]; omega), (by rw [hf77, hf98, hf104]; omega), (by rw [hf98]; omega), (by rw [hf77, hf85]; omega), (by omega), (by omega), (fun _ => ⟨PT.mk hPI (by decide) (fun _ => hSq) (fun h9 => absurd h9 (by decide)) rfl rfl rfl rfl (by rw [hf98]) (by rw [hf104]), hLo⟩)⟩ hM hS dX13_behindTest_129
      · have hc60 : v57.toInt = (-1) := (fi_eq rfl (show ((-1) : Int32).toInt = (-1) by decide)).mp c9
        refine lv_iconst (v := 4) hx hb dX13_behindTest_84 (by decide) ?_
        have hk_4 : (4 : Int32).toInt = 4 := by decide
        have hBr := hinn.1 (by omega)
        exact mz_iret (v := 4) hx hb hr rfl hlocks ⟨hIF, hIG, hIR, (fun _ _ => rfl), (fun _ _ => rfl), (fun _ _ => rfl), (by rw [hg_0, hg_1]; omega), (by rw [hg_1]; omega), (by rw [hg_0, hg_1, hg_2]; omega), (by rw [hg_0, hg_1, hg_2, hg_4]; omega), (by rw [hg_0]; omega), (by rw [hg_0, hg_6, hg_7]; omega), (by rw [hg_6]; omega), (by rw [hg_0, hg_5]; omega), (by omega), (by omega), (fun _ => ⟨PT.mk hPI (by decide) (fun h9 => absurd h9 (by decide)) (fun _ => hBr) rfl rfl rfl rfl (by rw [hg_6]) (by rw [hg_7]), hLo⟩)⟩ hM hS dX13_behindTest_85
    · have hc56 : ¬ (v49.toInt = 0) := fun h9 => c9 ((fi_eq rfl (show (0 : Int32).toInt = 0 by decide)).mpr h9)
      have hwk_110 : gw.toInt + (-498) = 0 ∧ gs.toInt + (-1) = 0 := by omega
      have hwk_111 : 0 ≤ (-1) * gf.toInt + gt.toInt + (-1) := by omega
      have hwk_112 : 0 ≤ (-1) * gf.toInt + gt.toInt + (-2) := by omega
      refine lv_aload_n hx hb dX13_behindTest_22 rfl (lv_at hl 1 rfl) ?_
      refine lv_iload_n hx hb dX13_behindTest_23 rfl (lv_at hl 0 rfl) ?_
      refine lv_if_eq (tgt := 31) hx hb dX13_behindTest_24 (by decide) (fun _ => ?_) (fun c9 => absurd ((fi_eq rfl (show (0 : Int32).toInt = 0 by decide)).mpr (show v1.toInt = 0 by omega)) c9)
      refine lv_iconst (v := 1) hx hb dX13_behindTest_31 (by decide) ?_
      have hk_1 : (1 : Int32).toInt = 1 := by decide
      refine mz_Vv (As := [.int 1]) (rest := []) ⟨hx, hb, hml, hown, hts⟩ hK hM hS (k_X13_settle l D cy ld ad am hD _ _ _ _ 1 gc gd gb zs hIF hIG hIR hg_6 hg_7 hg_5 (by omega) (by omega) (by omega) (fun _ => hPI)) ⟨callB_of 1 hts (wl_in mw_773) rfl rfl rfl (htl _ mw_5) (htl _ mw_770) hd_yX13_settle ⟨(Nat.le_of_ble_eq_true rfl), (Nat.le_of_ble_eq_true rfl)⟩, htl _ mw_771, htl _ mw_772⟩ rfl hl.1 rfl (Nat.le_of_ble_eq_true rfl) dX13_behindTest_32 ⟨(Nat.le_of_ble_eq_true rfl), (Nat.le_of_ble_eq_true rfl)⟩ (fun H locs F G R S hpo hM hS => ?_)
      obtain ⟨hIF, hIG, hIR, hfr9, hrr9, hgr9, hpo113, hpo114, hpo115, hx116, hx117, hx118⟩ := hpo
      have hFF := mz_fr (K := [14, 15, 16, 18, 19, 23, 29, 30]) (Fa := Fa) hfr9 (fun _ _ => rfl) (by decide)
      have hRR := mz_fr (K := [24, 25, 27, 28]) (Fa := Ra) hrr9 (fun _ _ => rfl) (by decide)
      have hGG := mz_fr (K := [17]) (Fa := Ga) hgr9 (fun _ _ => rfl) (by decide)
      have hg_0 := (hfr9 14 (by decide)).trans hg_0
      have hg_1 := (hfr9 15 (by decide)).trans hg_1
      have hg_2 := (hfr9 16 (by decide)).trans hg_2
      have hg_3 := (hfr9 13 (by decide)).trans hg_3
      have hg_4 := (hgr9 17 (by decide)).trans hg_4
      have hg_5 := (hfr9 19 (by decide)).trans hg_5
      obtain ⟨v121, hf120⟩ : ∃ z : Int32, F 23 = z := ⟨_, rfl⟩
      have hq_v121 := tk_rng v121
      rw [hf120] at hpo113 hpo115
      have hr_v121 : 0 ≤ v121.toInt ∧ v121.toInt ≤ 400 := hIF.at hf120
      obtain ⟨v123, hf122⟩ : ∃ z : Int32, F 29 = z := ⟨_, rfl⟩
      have hq_v123 := tk_rng v123
      rw [hf122] at hpo113 hpo114
      have hr_v123 : 0 ≤ v123.toInt ∧ v123.toInt ≤ 400 := hIF.at hf122
      have hs9 := hx116 (by omega)
      rw [hf120, hf122] at hs9
      have hPI : PI (R 24) (R 25) (R 27) (R 28) zs v121.toInt.toNat v123.toInt.toNat 1 := hs9.1
      have hLo := And.intro (hLo.1.trans hs9.2.1 (Nat.le_refl _)) (hLo.2.trans hs9.2.2 (Nat.le_refl _))
      rw [hf122] at hx117 hx118
      have hsb := hx117
      have hst := hx118
      have hSq := hSq.to (pd1 := v123.toInt.toNat) (hrr9 27 (by decide)) (by omega)
      refine lv_aload_n hx hb dX13_behindTest_35 rfl (lv_at hl 1 rfl) ?_
      refine lv_iload_n hx hb dX13_behindTest_36 rfl (lv_at hl 0 rfl) ?_
      refine lv_if_eq (tgt := 45) hx hb dX13_behindTest_37 (by decide) (fun _ => ?_) (fun c9 => absurd ((fi_eq rfl (show (0 : Int32).toInt = 0 by decide)).mpr (show v1.toInt = 0 by omega)) c9)
      refine lv_bipush (v := 30) hx hb dX13_behindTest_45 (by decide) ?_
      refine lv_aload_n hx hb dX13_behindTest_47 rfl (lv_at hl 1 rfl) ?_
      refine mz_getI hx hb htl hown hK hM 23 (Nat.le_of_ble_eq_true rfl) rfl (htl _ mw_670) (fun _ h9 => h9) dX13_behindTest_48 (fun v9 e9 => ?_)
      refine fx_ti (v := v121) (e9.symm.trans hf120) ?_
      have hk_30 : (30 : Int32).toInt = 30 := by decide
      refine mz_Vv (As := [.int 30, .int v121]) (rest := []) ⟨hx, hb, hml, hown, hts⟩ hK hM hS (k_X13_push l D cy ld ad am hD _ _ _ _ 30 v121 v123 hIF hIG hIR hf122 (by omega) (by omega) (by omega)) ⟨callB_of 2 hts (wl_in mw_728) rfl rfl rfl (htl _ mw_5) (htl _ mw_725) hd_yX13_push ⟨(Nat.le_of_ble_eq_true rfl), (Nat.le_of_ble_eq_true rfl)⟩, htl _ mw_726, htl _ mw_727⟩ rfl hl.1 rfl (Nat.le_of_ble_eq_true rfl) dX13_behindTest_51 ⟨(Nat.le_of_ble_eq_true rfl), (Nat.le_of_ble_eq_true rfl)⟩ (fun H locs F G R S hpo hM hS => ?_)
      obtain ⟨hIF, hIG, hIR, hfr9, hrr9, hgr9, hpo124, hx125, hx126⟩ := hpo
      have hFF := mz_fr (K := [14, 15, 16, 18, 19, 23, 29, 30]) (Fa := Fa) hfr9 hFF (by decide)
      have hRR := mz_fr (K := [24, 25, 27, 28]) (Fa := Ra) hrr9 hRR (by decide)
      have hGG := mz_fr (K := [17]) (Fa := Ga) hgr9 hGG (by decide)
      have hg_0 := (hfr9 14 (by decide)).trans hg_0
      have hg_1 := (hfr9 15 (by decide)).trans hg_1
      have hg_2 := (hfr9 16 (by decide)).trans hg_2
      have hg_3 := (hfr9 13 (by decide)).trans hg_3
      have hg_4 := (hgr9 17 (by decide)).trans hg_4
      have hg_5 := (hfr9 19 (by decide)).trans hg_5
      have hf120 := (hfr9 23 (by decide)).trans hf120
      obtain ⟨v129, hf128⟩ : ∃ z : Int32, F 29 = z := ⟨_, rfl⟩
      have hq_v129 := tk_rng v129
      rw [hf128] at hpo124
      have hr_v129 : 0 ≤ v129.toInt ∧ v129.toInt ≤ 400 := hIF.at hf128
      have hq27 : R 27 = _ := hx125
      have hq28 : R 28 = _ := hx126
      have hPI := hPI.to (hrr9 24 (by decide)) (hrr9 25 (by decide)) rfl rfl rfl rfl
      have hLo := And.intro (hLo.1.to (hrr9 24 (by decide))) (hLo.2.to (hrr9 25 (by decide)))
      refine lv_aload_n hx hb dX13_behindTest_54 rfl (lv_at hl 1 rfl) ?_
      refine lv_iload_n hx hb dX13_behindTest_55 rfl (lv_at hl 0 rfl) ?_
      refine lv_if_eq (tgt := 64) hx hb dX13_behindTest_56 (by decide) (fun _ => ?_) (fun c9 => absurd ((fi_eq rfl (show (0 : Int32).toInt = 0 by decide)).mpr (show v1.toInt = 0 by omega)) c9)
      refine lv_bipush (v := 30) hx hb dX13_behindTest_64 (by decide) ?_
      refine lv_iconst (v := 0) hx hb dX13_behindTest_66 (by decide) ?_
      have hk_30 : (30 : Int32).toInt = 30 := by decide
      have hk_0 : (0 : Int32).toInt = 0 := by decide
      refine mz_Vv (As := [.int 30, .int 0]) (rest := []) ⟨hx, hb, hml, hown, hts⟩ hK hM hS (k_X13_emit l D cy ld ad am hD _ _ _ _ 30 0 v121 hIF hIG hIR hf120 (by omega)) ⟨callB_of 2 hts (wl_in mw_758) rfl rfl rfl (htl _ mw_5) (htl _ mw_755) hd_yX13_emit ⟨(Nat.le_of_ble_eq_true rfl), (Nat.le_of_ble_eq_true rfl)⟩, htl _ mw_756, htl _ mw_757⟩ rfl hl.1 rfl (Nat.le_of_ble_eq_true rfl) dX13_behindTest_67 ⟨(Nat.le_of_ble_eq_true rfl), (Nat.le_of_ble_eq_true rfl)⟩ (fun H locs F G R S hpo hM hS => ?_)
      obtain ⟨hIF, hIG, hIR, hfr9, hrr9, hgr9, hpo130, hx131, hx132⟩ := hpo
      have hFF := mz_fr (K := [14, 15, 16, 18, 19, 23, 29, 30]) (Fa := Fa) hfr9 hFF (by decide)
      have hRR := mz_fr (K := [24, 25, 27, 28]) (Fa := Ra) hrr9 hRR (by decide)
      have hGG := mz_fr (K := [17]) (Fa := Ga) hgr9 hGG (by decide)
      have hg_0 := (hfr9 14 (by decide)).trans hg_0
      have hg_1 := (hfr9 15 (by decide)).trans hg_1
      have hg_2 := (hfr9 16 (by decide)).trans hg_2
      have hg_3 := (hfr9 13 (by decide)).trans hg_3
      have hg_4 := (hgr9 17 (by decide)).trans hg_4
      have hg_5 := (hfr9 19 (by decide)).trans hg_5
      have hf128 := (hfr9 29 (by decide)).trans hf128
      obtain ⟨v135, hf134⟩ : ∃ z : Int32, F 23 = z := ⟨_, rfl⟩
      have hq_v135 := tk_rng v135
      rw [hf134] at hpo130
      have hr_v135 : 0 ≤ v135.toInt ∧ v135.toInt ≤ 400 := hIF.at hf134
      have hz9 := hPI.1
      have hPI : PI (R 24) (R 25) (R 27) (R 28) zs v135.toInt.toNat v129.toInt.toNat 0 := (PI.andor (o := 30) hPI (by decide) (by decide) hSq (show v121.toInt = _ by omega) hq27 hq28 hx131 hx132).to rfl rfl (hrr9 27 (by decide)) (hrr9 28 (by decide)) (by omega) (by omega)
      have hLo := And.intro ((hLo.1.upd hz9).to hx131) ((hLo.2.upd hz9).to hx132)
      have hSq : nSq (R 27) v129.toInt.toNat := (hSq.push hq27 (by decide)).to (hrr9 27 (by decide)) (by omega)
      refine lv_aload_n hx hb dX13_behindTest_70 rfl (lv_at hl 1 rfl) ?_
      refine mz_Vv (As := []) (rest := []) ⟨hx, hb, hml, hown, hts⟩ hK hM hS (k_X13_next l D cy ld ad am hD _ _ _ _ gt gp hIF hIG hIR hg_1 hg_3 (by omega)) ⟨callB_of 0 hts (wl_in mw_685) rfl rfl rfl (htl _ mw_5) (htl _ mw_682) hd_yX13_next ⟨(Nat.le_of_ble_eq_true rfl), (Nat.le_of_ble_eq_true rfl)⟩, htl _ mw_683, htl _ mw_684⟩ rfl hl.1 rfl (Nat.le_of_ble_eq_true rfl) dX13_behindTest_71 ⟨(Nat.le_of_ble_eq_true rfl), (Nat.le_of_ble_eq_true rfl)⟩ (fun H locs F G R S hpo hM hS => ?_)
      obtain ⟨hIF, hIG, hIR, hfr9, hrr9, hgr9, hpo136, hpo137, hpo138, hpo139, hpo140⟩ := hpo
      have hFF := mz_fr (K := [14, 15, 16, 18, 19, 23, 29, 30]) (Fa := Fa) hfr9 hFF (by decide)
      have hRR := mz_fr (K := [24, 25, 27, 28]) (Fa := Ra) hrr9 hRR (by decide)
      have hGG := mz_fr (K := [17]) (Fa := Ga) hgr9 hGG (by decide)
      have hg_3 := (hfr9 13 (by decide)).trans hg_3
      have hg_5 := (hfr9 19 (by decide)).trans hg_5
      have hf128 := (hfr9 29 (by decide)).trans hf128
      have hf134 := (hfr9 23 (by decide)).trans hf134
      obtain ⟨v143, hf142⟩ : ∃ z : Int32, F 14 = z := ⟨_, rfl⟩
      have hq_v143 := tk_rng v143
      rw [hf142] at hpo136 hpo137 hpo139 hpo140
      have hr_v143 : 0 ≤ v143.toInt ∧ v143.toInt ≤ 400 := hIF.at hf142
      obtain ⟨v145, hf144⟩ : ∃ z : Int32, F 15 = z := ⟨_, rfl⟩
      have hq_v145 := tk_rng v145
      rw [hf144] at hpo137 hpo138 hpo139 hpo140
      have hr_v145 : 0 ≤ v145.toInt ∧ v145.toInt ≤ 400 := hIF.at hf144
      obtain ⟨v147, hf146⟩ : ∃ z : Int32, F 16 = z := ⟨_, rfl⟩
      have hq_v147 := tk_rng v147
      rw [hf146] at hpo139 hpo140
      have hr_v147 : 0 ≤ v147.toInt ∧ v147.toInt ≤ 3 := hIF.at hf146
      obtain ⟨w149, hf148⟩ : ∃ z : Int64, G 17 = z := ⟨_, rfl⟩
      have hq_w149 := tk_rngL w149
      rw [hf148] at hpo140
      have hPI := hPI.to (hrr9 24 (by decide)) (hrr9 25 (by decide)) (hrr9 27 (by decide)) (hrr9 28 (by decide)) rfl rfl
      have hLo := And.intro (hLo.1.to (hrr9 24 (by decide))) (hLo.2.to (hrr9 25 (by decide)))
      have hSq := hSq.to (hrr9 27 (by decide)) (Nat.le_refl _)
      refine lv_iconst (v := 0) hx hb dX13_behindTest_74 (by decide) ?_
      have hk_0 : (0 : Int32).toInt = 0 := by decide
      exact mz_iret (v := 0) hx hb hr rfl hlocks ⟨hIF, hIG, hIR, hFF, hRR, hGG, (by rw [hf142, hf144]; omega), (by rw [hf144]; omega), (by rw [hf142, hf144, hf146]; omega), (by rw [hf142, hf144, hf146, hf148]; omega), (by rw [hf142]; omega), (by rw [hf142, hf134, hf128]; omega), (by rw [hf134]; omega), (by rw [hf142, hg_5]; omega), (by omega), (by omega), (fun _ => ⟨PT.mk hPI (by decide) (fun _ => hSq) (fun h9 => absurd h9 (by decide)) rfl rfl rfl rfl (by rw [hf134]) (by rw [hf128]), hLo⟩)⟩ hM hS dX13_behindTest_75
