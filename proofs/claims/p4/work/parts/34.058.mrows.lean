theorem dX13_behindTest_0 : decode cX13_behindTest 0 = .ok (.aload_n 0, 1) := by decide +kernel
theorem dX13_behindTest_1 : decode cX13_behindTest 1 = .ok (.ldc2_w 352, 3) := by decide +kernel
theorem dX13_behindTest_4 : decode cX13_behindTest 4 = .ok (.invokevirtual 296, 3) := by decide +kernel
theorem dX13_behindTest_7 : decode cX13_behindTest 7 = .ok (.istore_n 1, 1) := by decide +kernel
theorem dX13_behindTest_8 : decode cX13_behindTest 8 = .ok (.iload_n 1, 1) := by decide +kernel
theorem dX13_behindTest_9 : decode cX13_behindTest 9 = .ok (.ifCond .ne 13, 3) := by decide +kernel
theorem dX13_behindTest_22 : decode cX13_behindTest 22 = .ok (.aload_n 0, 1) := by decide +kernel
theorem dX13_behindTest_23 : decode cX13_behindTest 23 = .ok (.iload_n 1, 1) := by decide +kernel
theorem dX13_behindTest_24 : decode cX13_behindTest 24 = .ok (.ifCond .eq 7, 3) := by decide +kernel
theorem dX13_behindTest_27 : decode cX13_behindTest 27 = .ok (.iconst 2, 1) := by decide +kernel
theorem dX13_behindTest_28 : decode cX13_behindTest 28 = .ok (.goto 4, 3) := by decide +kernel
theorem dX13_behindTest_32 : decode cX13_behindTest 32 = .ok (.invokevirtual 342, 3) := by decide +kernel
theorem dX13_behindTest_35 : decode cX13_behindTest 35 = .ok (.aload_n 0, 1) := by decide +kernel
theorem dX13_behindTest_36 : decode cX13_behindTest 36 = .ok (.iload_n 1, 1) := by decide +kernel
theorem dX13_behindTest_37 : decode cX13_behindTest 37 = .ok (.ifCond .eq 8, 3) := by decide +kernel
theorem dX13_behindTest_40 : decode cX13_behindTest 40 = .ok (.bipush 29, 2) := by decide +kernel
theorem dX13_behindTest_42 : decode cX13_behindTest 42 = .ok (.goto 5, 3) := by decide +kernel
theorem dX13_behindTest_47 : decode cX13_behindTest 47 = .ok (.aload_n 0, 1) := by decide +kernel
theorem dX13_behindTest_48 : decode cX13_behindTest 48 = .ok (.getfield 275, 3) := by decide +kernel
theorem dX13_behindTest_51 : decode cX13_behindTest 51 = .ok (.invokevirtual 303, 3) := by decide +kernel
theorem dX13_behindTest_54 : decode cX13_behindTest 54 = .ok (.aload_n 0, 1) := by decide +kernel
theorem dX13_behindTest_55 : decode cX13_behindTest 55 = .ok (.iload_n 1, 1) := by decide +kernel
theorem dX13_behindTest_56 : decode cX13_behindTest 56 = .ok (.ifCond .eq 8, 3) := by decide +kernel
theorem dX13_behindTest_59 : decode cX13_behindTest 59 = .ok (.bipush 29, 2) := by decide +kernel
theorem dX13_behindTest_61 : decode cX13_behindTest 61 = .ok (.goto 5, 3) := by decide +kernel
theorem dX13_behindTest_66 : decode cX13_behindTest 66 = .ok (.iconst 0, 1) := by decide +kernel
theorem dX13_behindTest_67 : decode cX13_behindTest 67 = .ok (.invokevirtual 284, 3) := by decide +kernel
theorem dX13_behindTest_70 : decode cX13_behindTest 70 = .ok (.aload_n 0, 1) := by decide +kernel
theorem dX13_behindTest_71 : decode cX13_behindTest 71 = .ok (.invokevirtual 240, 3) := by decide +kernel
theorem dX13_behindTest_74 : decode cX13_behindTest 74 = .ok (.iconst 0, 1) := by decide +kernel
theorem dX13_behindTest_75 : decode cX13_behindTest 75 = .ok (.ireturn, 1) := by decide +kernel
theorem dX13_behindTest_12 : decode cX13_behindTest 12 = .ok (.aload_n 0, 1) := by decide +kernel
theorem dX13_behindTest_13 : decode cX13_behindTest 13 = .ok (.ldc2_w 354, 3) := by decide +kernel
theorem dX13_behindTest_16 : decode cX13_behindTest 16 = .ok (.invokevirtual 296, 3) := by decide +kernel
theorem dX13_behindTest_19 : decode cX13_behindTest 19 = .ok (.ifCond .eq 57, 3) := by decide +kernel
theorem dX13_behindTest_76 : decode cX13_behindTest 76 = .ok (.aload_n 0, 1) := by decide +kernel
theorem dX13_behindTest_77 : decode cX13_behindTest 77 = .ok (.invokevirtual 345, 3) := by decide +kernel
theorem dX13_behindTest_80 : decode cX13_behindTest 80 = .ok (.iconst (-1), 1) := by decide +kernel
theorem dX13_behindTest_81 : decode cX13_behindTest 81 = .ok (.if_icmp .ne 5, 3) := by decide +kernel
theorem dX13_behindTest_86 : decode cX13_behindTest 86 = .ok (.aload_n 0, 1) := by decide +kernel
theorem dX13_behindTest_87 : decode cX13_behindTest 87 = .ok (.aload_n 0, 1) := by decide +kernel
theorem dX13_behindTest_88 : decode cX13_behindTest 88 = .ok (.bipush 41, 2) := by decide +kernel
theorem dX13_behindTest_90 : decode cX13_behindTest 90 = .ok (.invokevirtual 309, 3) := by decide +kernel
theorem dX13_behindTest_93 : decode cX13_behindTest 93 = .ok (.invokevirtual 271, 3) := by decide +kernel
theorem dX13_behindTest_96 : decode cX13_behindTest 96 = .ok (.aload_n 0, 1) := by decide +kernel
theorem dX13_behindTest_97 : decode cX13_behindTest 97 = .ok (.getfield 236, 3) := by decide +kernel
theorem dX13_behindTest_100 : decode cX13_behindTest 100 = .ok (.ifCond .ne 28, 3) := by decide +kernel
theorem dX13_behindTest_128 : decode cX13_behindTest 128 = .ok (.iconst 2, 1) := by decide +kernel
theorem dX13_behindTest_129 : decode cX13_behindTest 129 = .ok (.ireturn, 1) := by decide +kernel
theorem dX13_behindTest_103 : decode cX13_behindTest 103 = .ok (.aload_n 0, 1) := by decide +kernel
theorem dX13_behindTest_104 : decode cX13_behindTest 104 = .ok (.iconst 1, 1) := by decide +kernel
theorem dX13_behindTest_105 : decode cX13_behindTest 105 = .ok (.invokevirtual 342, 3) := by decide +kernel
theorem dX13_behindTest_108 : decode cX13_behindTest 108 = .ok (.aload_n 0, 1) := by decide +kernel
theorem dX13_behindTest_109 : decode cX13_behindTest 109 = .ok (.dup, 1) := by decide +kernel
theorem dX13_behindTest_110 : decode cX13_behindTest 110 = .ok (.getfield 278, 3) := by decide +kernel
theorem dX13_behindTest_113 : decode cX13_behindTest 113 = .ok (.iconst 1, 1) := by decide +kernel
theorem dX13_behindTest_114 : decode cX13_behindTest 114 = .ok (.isub, 1) := by decide +kernel
theorem dX13_behindTest_115 : decode cX13_behindTest 115 = .ok (.putfield 278, 3) := by decide +kernel
theorem dX13_behindTest_118 : decode cX13_behindTest 118 = .ok (.aload_n 0, 1) := by decide +kernel
theorem dX13_behindTest_119 : decode cX13_behindTest 119 = .ok (.dup, 1) := by decide +kernel
theorem dX13_behindTest_120 : decode cX13_behindTest 120 = .ok (.getfield 300, 3) := by decide +kernel
theorem dX13_behindTest_123 : decode cX13_behindTest 123 = .ok (.iconst 1, 1) := by decide +kernel
theorem dX13_behindTest_124 : decode cX13_behindTest 124 = .ok (.isub, 1) := by decide +kernel
theorem dX13_behindTest_125 : decode cX13_behindTest 125 = .ok (.putfield 300, 3) := by decide +kernel
theorem dX13_behindTest_84 : decode cX13_behindTest 84 = .ok (.iconst 4, 1) := by decide +kernel
theorem dX13_behindTest_85 : decode cX13_behindTest 85 = .ok (.ireturn, 1) := by decide +kernel
theorem dX13_behindTest_31 : decode cX13_behindTest 31 = .ok (.iconst 1, 1) := by decide +kernel
theorem dX13_behindTest_45 : decode cX13_behindTest 45 = .ok (.bipush 30, 2) := by decide +kernel
theorem dX13_behindTest_64 : decode cX13_behindTest 64 = .ok (.bipush 30, 2) := by decide +kernel
set_option maxHeartbeats 4000000 in
set_option maxRecDepth 100000 in
theorem k_X13_behindTest (l : Launch) (D : va_G) (cy : Nat → ClassId) (ld ad : Nat → Nat) (am : Nat) (hD : mz_D ad am) (Fa : Nat → Int32) (Ga : Nat → Int64) (Ra : Nat → Nat → Int32) (Sa : Nat → Nat → Int64) (gf : Int32) (gt : Int32) (gs : Int32) (gp : Int32) (gw : Int64) (gb : Int32) (gc : Int32) (gd : Int32) (zs : Nat) (hIF : mz_IF false Fa) (hIG : mz_IG Ga) (hIR : mz_IR [] true Ra) (hg_0 : Fa 14 = gf) (hg_1 : Fa 15 = gt) (hg_2 : Fa 16 = gs) (hg_3 : Fa 13 = gp) (hg_4 : Ga 17 = gw) (hg_5 : Fa 19 = gb) (hg_6 : Fa 23 = gc) (hg_7 : Fa 29 = gd) (hp_0 : 0 ≤ (-1) * gf.toInt + gt.toInt) (hp_1 : 0 ≤ gp.toInt + (-1) * gt.toInt) (hp_2 : (1 ≤ gs.toInt → 0 ≤ (-1) * gf.toInt + gt.toInt + (-1))) (hp_3 : (27 ≤ gw.toInt → 1 ≤ gs.toInt → gs.toInt ≤ 1 → 0 ≤ (-1) * gf.toInt + gt.toInt + (-2))) (hp_4 : 0 ≤ (-1) * gc.toInt + (-1) * gd.toInt + gf.toInt) (hp_5 : gb.toInt ≤ 0) (hx_0 : PT (Ra 24) (Ra 25) (Ra 27) (Ra 28) zs gc.toInt.toNat gd.toInt.toNat 2) : Met l yX13_behindTest (wl yX13_behindTest cX13_behindTest 2 (some .int)) ({ frames := 6, cells := 0, slots := 0, locals := 350 }) (mz_p D cy ld ad am Fa Ga Ra Sa [.ref am]) (mz_i D cy ad am (fun r F G R S => mz_IF false F ∧ mz_IG G ∧ mz_IR [] true R ∧ (∀ k : Nat, k ∉ ([14, 15, 16, 18, 19, 23, 29, 30] : List Nat) → F k = Fa k) ∧ (∀ k : Nat, k ∉ ([24, 25, 27, 28] : List Nat) → R k = Ra k) ∧ (∀ k : Nat, k ∉ ([17] : List Nat) → G k = Ga k) ∧ 0 ≤ (-1) * (F 14).toInt + (F 15).toInt ∧ 0 ≤ gp.toInt + (-1) * (F 15).toInt ∧ (1 ≤ (F 16).toInt → 0 ≤ (-1) * (F 14).toInt + (F 15).toInt + (-1)) ∧ (27 ≤ (G 17).toInt → 1 ≤ (F 16).toInt → (F 16).toInt ≤ 1 → 0 ≤ (-1) * (F 14).toInt + (F 15).toInt + (-2)) ∧ 0 ≤ (-1) * gf.toInt + (F 14).toInt ∧ 0 ≤ (-1) * (F 23).toInt + (-1) * (F 29).toInt + (F 14).toInt ∧ 0 ≤ (-1) * gc.toInt + (F 23).toInt ∧ ((F 19).toInt ≤ 0 → r.toInt ≤ 3 → 0 ≤ (-1) * gf.toInt + (F 14).toInt + (-1)) ∧ 0 ≤ r.toInt ∧ r.toInt ≤ 4 ∧ ((F 19).toInt = 0 → PT (R 24) (R 25) (R 27) (R 28) zs (F 23).toInt.toNat (F 29).toInt.toNat r.toInt ∧ low zs (Ra 24) (R 24) ∧ low zs (Ra 25) (R 25)))) 0 0 (mz_W ad am) := by
  refine mz_met (y := yX13_behindTest) (cc := cX13_behindTest) (maxL := 2) (ret := (some .int)) (av := [.ref am]) _ (by decide) (Nat.le_of_ble_eq_true rfl) ?_
  intro p e s m args below meth c hx hb hr hml hts htl hown hlocks hK H locs hM hS ls hl
  have hown : s.vm.findClass RX13 = some m.cls := hown
  have hl : lv_has ls 2 [(0, .ref am)] := hl
  have hq_gf := tk_rng gf
  have hq_gt := tk_rng gt
  have hq_gs := tk_rng gs
  have hq_gp := tk_rng gp
  have hq_gw := tk_rngL gw
  have hq_gb := tk_rng gb
  have hq_gc := tk_rng gc
  have hq_gd := tk_rng gd
  have hr_gf : 0 ≤ gf.toInt ∧ gf.toInt ≤ 400 := hIF.at hg_0
  have hr_gt : 0 ≤ gt.toInt ∧ gt.toInt ≤ 400 := hIF.at hg_1
  have hr_gs : 0 ≤ gs.toInt ∧ gs.toInt ≤ 3 := hIF.at hg_2
  have hr_gp : 0 ≤ gp.toInt ∧ gp.toInt ≤ 400 := hIF.at hg_3
  have hr_gb : 0 ≤ gb.toInt ∧ gb.toInt ≤ 1 := hIF.at hg_5
  have hr_gc : 0 ≤ gc.toInt ∧ gc.toInt ≤ 400 := hIF.at hg_6
  have hr_gd : 0 ≤ gd.toInt ∧ gd.toInt ≤ 400 := hIF.at hg_7
  have hPI : PI (Ra 24) (Ra 25) (Ra 27) (Ra 28) zs gc.toInt.toNat gd.toInt.toNat 1 := hx_0.p (by decide)
  have hLo := And.intro (low.refl zs (Ra 24)) (low.refl zs (Ra 25))
  have hSq : nSq (Ra 27) gd.toInt.toNat := hx_0.2.1 (by decide)
  refine lv_aload_n hx hb dX13_behindTest_0 rfl (lv_at hl 0 rfl) ?_
  refine lv_ldc2 hx hb hown (htl _ mw_790) dX13_behindTest_1 ?_
  have hk_1476 : (1476 : Int64).toInt = 1476 := by decide
  refine mz_Vj (As := [.long 1476]) (rest := []) ⟨hx, hb, hml, hown, hts⟩ hK hM hS (k_X13_isWord l D cy ld ad am hD _ _ _ _ 1476 gs gw hIF hIG hIR hg_2 hg_4) ⟨callB_of 1 hts (wl_in mw_709) rfl rfl rfl (htl _ mw_5) (htl _ mw_706) hd_yX13_isWord ⟨(Nat.le_of_ble_eq_true rfl), (Nat.le_of_ble_eq_true rfl)⟩, htl _ mw_707, htl _ mw_708⟩ rfl hl.1 rfl (Nat.le_of_ble_eq_true rfl) dX13_behindTest_4 ⟨(Nat.le_of_ble_eq_true rfl), (Nat.le_of_ble_eq_true rfl)⟩ (fun v1 H locs hpo hM hS => ?_)
  obtain ⟨hpo2, hpo3, hpo4, hpo5, hpo6⟩ := hpo
  have hq_v1 := tk_rng v1
  refine lv_istore_n (lv' := [(1, .int v1), (0, .ref am)]) hx hb dX13_behindTest_7 rfl hl (by decide) rfl (fun ls hl => ?_)
  refine lv_iload_n hx hb dX13_behindTest_8 rfl (lv_at hl 0 rfl) ?_
  refine lv_if_ne (tgt := 22) hx hb dX13_behindTest_9 (by decide) (fun c9 => ?_) (fun c9 => ?_)
  · have hc11 : ¬ (v1.toInt = 0) := fun h9 => c9 ((fi_eq rfl (show (0 : Int32).toInt = 0 by decide)).mpr h9)
    have hwk_12 : gw.toInt + (-1476) = 0 ∧ gs.toInt + (-1) = 0 := by omega
    have hwk_13 : 0 ≤ (-1) * gf.toInt + gt.toInt + (-1) := by omega
    have hwk_14 : 0 ≤ (-1) * gf.toInt + gt.toInt + (-2) := by omega
    refine lv_aload_n hx hb dX13_behindTest_22 rfl (lv_at hl 1 rfl) ?_
    refine lv_iload_n hx hb dX13_behindTest_23 rfl (lv_at hl 0 rfl) ?_
    refine lv_if_eq (tgt := 31) hx hb dX13_behindTest_24 (by decide) (fun c9 => absurd (show v1.toInt = 0 from (fi_eq rfl (show (0 : Int32).toInt = 0 by decide)).mp c9) (by omega)) (fun _ => ?_)
    refine lv_iconst (v := 2) hx hb dX13_behindTest_27 (by decide) ?_
    refine lv_goto (tgt := 32) hx hb dX13_behindTest_28 (by decide) ?_
    have hk_2 : (2 : Int32).toInt = 2 := by decide
    refine mz_Vv (As := [.int 2]) (rest := []) ⟨hx, hb, hml, hown, hts⟩ hK hM hS (k_X13_settle l D cy ld ad am hD _ _ _ _ 2 gc gd gb zs hIF hIG hIR hg_6 hg_7 hg_5 (by omega) (by omega) (by omega) (fun _ => hPI)) ⟨callB_of 1 hts (wl_in mw_773) rfl rfl rfl (htl _ mw_5) (htl _ mw_770) hd_yX13_settle ⟨(Nat.le_of_ble_eq_true rfl), (Nat.le_of_ble_eq_true rfl)⟩, htl _ mw_771, htl _ mw_772⟩ rfl hl.1 rfl (Nat.le_of_ble_eq_true rfl) dX13_behindTest_32 ⟨(Nat.le_of_ble_eq_true rfl), (Nat.le_of_ble_eq_true rfl)⟩ (fun H locs F G R S hpo hM hS => ?_)
    obtain ⟨hIF, hIG, hIR, hfr9, hrr9, hgr9, hpo15, hpo16, hpo17, hx18, hx19, hx20⟩ := hpo
    have hFF := mz_fr (K := [14, 15, 16, 18, 19, 23, 29, 30]) (Fa := Fa) hfr9 (fun _ _ => rfl) (by decide)
    have hRR := mz_fr (K := [24, 25, 27, 28]) (Fa := Ra) hrr9 (fun _ _ => rfl) (by decide)
    have hGG := mz_fr (K := [17]) (Fa := Ga) hgr9 (fun _ _ => rfl) (by decide)
    have hg_0 := (hfr9 14 (by decide)).trans hg_0
    have hg_1 := (hfr9 15 (by decide)).trans hg_1
    have hg_2 := (hfr9 16 (by decide)).trans hg_2
    have hg_3 := (hfr9 13 (by decide)).trans hg_3
    have hg_4 := (hgr9 17 (by decide)).trans hg_4
    have hg_5 := (hfr9 19 (by decide)).trans hg_5
    obtain ⟨v23, hf22⟩ : ∃ z : Int32, F 23 = z := ⟨_, rfl⟩
    have hq_v23 := tk_rng v23
    rw [hf22] at hpo15 hpo17
    have hr_v23 : 0 ≤ v23.toInt ∧ v23.toInt ≤ 400 := hIF.at hf22
    obtain ⟨v25, hf24⟩ : ∃ z : Int32, F 29 = z := ⟨_, rfl⟩
    have hq_v25 := tk_rng v25
    rw [hf24] at hpo15 hpo16
    have hr_v25 : 0 ≤ v25.toInt ∧ v25.toInt ≤ 400 := hIF.at hf24
    have hs9 := hx18 (by omega)
    rw [hf22, hf24] at hs9
    have hPI : PI (R 24) (R 25) (R 27) (R 28) zs v23.toInt.toNat v25.toInt.toNat 1 := hs9.1
    have hLo := And.intro (hLo.1.trans hs9.2.1 (Nat.le_refl _)) (hLo.2.trans hs9.2.2 (Nat.le_refl _))
    rw [hf24] at hx19 hx20
    have hsb := hx19
    have hst := hx20
    have hSq := hSq.to (pd1 := v25.toInt.toNat) (hrr9 27 (by decide)) (by omega)
    refine lv_aload_n hx hb dX13_behindTest_35 rfl (lv_at hl 1 rfl) ?_
    refine lv_iload_n hx hb dX13_behindTest_36 rfl (lv_at hl 0 rfl) ?_
    refine lv_if_eq (tgt := 45) hx hb dX13_behindTest_37 (by decide) (fun c9 => absurd (show v1.toInt = 0 from (fi_eq rfl (show (0 : Int32).toInt = 0 by decide)).mp c9) (by omega)) (fun _ => ?_)
    refine lv_bipush (v := 29) hx hb dX13_behindTest_40 (by decide) ?_
    refine lv_goto (tgt := 47) hx hb dX13_behindTest_42 (by decide) ?_
    refine lv_aload_n hx hb dX13_behindTest_47 rfl (lv_at hl 1 rfl) ?_
    refine mz_getI hx hb htl hown hK hM 23 (Nat.le_of_ble_eq_true rfl) rfl (htl _ mw_670) (fun _ h9 => h9) dX13_behindTest_48 (fun v9 e9 => ?_)
    refine fx_ti (v := v23) (e9.symm.trans hf22) ?_
    have hk_29 : (29 : Int32).toInt = 29 := by decide
    refine mz_Vv (As := [.int 29, .int v23]) (rest := []) ⟨hx, hb, hml, hown, hts⟩ hK hM hS (k_X13_push l D cy ld ad am hD _ _ _ _ 29 v23 v25 hIF hIG hIR hf24 (by omega) (by omega) (by omega)) ⟨callB_of 2 hts (wl_in mw_728) rfl rfl rfl (htl _ mw_5) (htl _ mw_725) hd_yX13_push ⟨(Nat.le_of_ble_eq_true rfl), (Nat.le_of_ble_eq_true rfl)⟩, htl _ mw_726, htl _ mw_727⟩ rfl hl.1 rfl (Nat.le_of_ble_eq_true rfl) dX13_behindTest_51 ⟨(Nat.le_of_ble_eq_true rfl), (Nat.le_of_ble_eq_true rfl)⟩ (fun H locs F G R S hpo hM hS => ?_)
    obtain ⟨hIF, hIG, hIR, hfr9, hrr9, hgr9, hpo26, hx27, hx28⟩ := hpo
    have hFF := mz_fr (K := [14, 15, 16, 18, 19, 23, 29, 30]) (Fa := Fa) hfr9 hFF (by decide)
    have hRR := mz_fr (K := [24, 25, 27, 28]) (Fa := Ra) hrr9 hRR (by decide)
    have hGG := mz_fr (K := [17]) (Fa := Ga) hgr9 hGG (by decide)
    have hg_0 := (hfr9 14 (by decide)).trans hg_0
    have hg_1 := (hfr9 15 (by decide)).trans hg_1
    have hg_2 := (hfr9 16 (by decide)).trans hg_2
    have hg_3 := (hfr9 13 (by decide)).trans hg_3
    have hg_4 := (hgr9 17 (by decide)).trans hg_4
    have hg_5 := (hfr9 19 (by decide)).trans hg_5
    have hf22 := (hfr9 23 (by decide)).trans hf22
    obtain ⟨v31, hf30⟩ : ∃ z : Int32, F 29 = z := ⟨_, rfl⟩
    have hq_v31 := tk_rng v31
    rw [hf30] at hpo26
    have hr_v31 : 0 ≤ v31.toInt ∧ v31.toInt ≤ 400 := hIF.at hf30
    have hq27 : R 27 = _ := hx27
    have hq28 : R 28 = _ := hx28
    have hPI := hPI.to (hrr9 24 (by decide)) (hrr9 25 (by decide)) rfl rfl rfl rfl
    have hLo := And.intro (hLo.1.to (hrr9 24 (by decide))) (hLo.2.to (hrr9 25 (by decide)))
    refine lv_aload_n hx hb dX13_behindTest_54 rfl (lv_at hl 1 rfl) ?_
    refine lv_iload_n hx hb dX13_behindTest_55 rfl (lv_at hl 0 rfl) ?_
    refine lv_if_eq (tgt := 64) hx hb dX13_behindTest_56 (by decide) (fun c9 => absurd (show v1.toInt = 0 from (fi_eq rfl (show (0 : Int32).toInt = 0 by decide)).mp c9) (by omega)) (fun _ => ?_)
    refine lv_bipush (v := 29) hx hb dX13_behindTest_59 (by decide) ?_
    refine lv_goto (tgt := 66) hx hb dX13_behindTest_61 (by decide) ?_
    refine lv_iconst (v := 0) hx hb dX13_behindTest_66 (by decide) ?_
    have hk_29 : (29 : Int32).toInt = 29 := by decide
    have hk_0 : (0 : Int32).toInt = 0 := by decide
    refine mz_Vv (As := [.int 29, .int 0]) (rest := []) ⟨hx, hb, hml, hown, hts⟩ hK hM hS (k_X13_emit l D cy ld ad am hD _ _ _ _ 29 0 v23 hIF hIG hIR hf22 (by omega)) ⟨callB_of 2 hts (wl_in mw_758) rfl rfl rfl (htl _ mw_5) (htl _ mw_755) hd_yX13_emit ⟨(Nat.le_of_ble_eq_true rfl), (Nat.le_of_ble_eq_true rfl)⟩, htl _ mw_756, htl _ mw_757⟩ rfl hl.1 rfl (Nat.le_of_ble_eq_true rfl) dX13_behindTest_67 ⟨(Nat.le_of_ble_eq_true rfl), (Nat.le_of_ble_eq_true rfl)⟩ (fun H locs F G R S hpo hM hS => ?_)
    obtain ⟨hIF, hIG, hIR, hfr9, hrr9, hgr9, hpo32, hx33, hx34⟩ := hpo
    have hFF := mz_fr (K := [14, 15, 16, 18, 19, 23, 29, 30]) (Fa := Fa) hfr9 hFF (by decide)
    have hRR := mz_fr (K := [24, 25, 27, 28]) (Fa := Ra) hrr9 hRR (by decide)
    have hGG := mz_fr (K := [17]) (Fa := Ga) hgr9 hGG (by decide)
    have hg_0 := (hfr9 14 (by decide)).trans hg_0
    have hg_1 := (hfr9 15 (by decide)).trans hg_1
    have hg_2 := (hfr9 16 (by decide)).trans hg_2
    have hg_3 := (hfr9 13 (by decide)).trans hg_3
    have hg_4 := (hgr9 17 (by decide)).trans hg_4
    have hg_5 := (hfr9 19 (by decide)).trans hg_5
    have hf30 := (hfr9 29 (by decide)).trans hf30
    obtain ⟨v37, hf36⟩ : ∃ z : Int32, F 23 = z := ⟨_, rfl⟩
    have hq_v37 := tk_rng v37
    rw [hf36] at hpo32
    have hr_v37 : 0 ≤ v37.toInt ∧ v37.toInt ≤ 400 := hIF.at hf36
    have hz9 := hPI.1
    have hPI : PI (R 24) (R 25) (R 27) (R 28) zs v37.toInt.toNat v31.toInt.toNat 0 := (PI.andor (o := 29) hPI (by decide) (by decide) hSq (show v23.toInt = _ by omega) hq27 hq28 hx33 hx34).to rfl rfl (hrr9 27 (by decide)) (hrr9 28 (by decide)) (by omega) (by omega)
    have hLo := And.intro ((hLo.1.upd hz9).to hx33) ((hLo.2.upd hz9).to hx34)
    have hSq : nSq (R 27) v31.toInt.toNat := (hSq.push hq27 (by decide)).to (hrr9 27 (by decide)) (by omega)
    refine lv_aload_n hx hb dX13_behindTest_70 rfl (lv_at hl 1 rfl) ?_
    refine mz_Vv (As := []) (rest := []) ⟨hx, hb, hml, hown, hts⟩ hK hM hS (k_X13_next l D cy ld ad am hD _ _ _ _ gt gp hIF hIG hIR hg_1 hg_3 (by omega)) ⟨callB_of 0 hts (wl_in mw_685) rfl rfl rfl (htl _ mw_5) (htl _ mw_682) hd_yX13_next ⟨(Nat.le_of_ble_eq_true rfl), (Nat.le_of_ble_eq_true rfl)⟩, htl _ mw_683, htl _ mw_684⟩ rfl hl.1 rfl (Nat.le_of_ble_eq_true rfl) dX13_behindTest_71 ⟨(Nat.le_of_ble_eq_true rfl), (Nat.le_of_ble_eq_true rfl)⟩ (fun H locs F G R S hpo hM hS => ?_)
    obtain ⟨hIF, hIG, hIR, hfr9, hrr9, hgr9, hpo38, hpo39, hpo40, hpo41, hpo42⟩ := hpo
    have hFF := mz_fr (K := [14, 15, 16, 18, 19, 23, 29, 30]) (Fa := Fa) hfr9 hFF (by decide)
    have hRR := mz_fr (K := [24, 25, 27, 28]) (Fa := Ra) hrr9 hRR (by decide)
    have hGG := mz_fr (K := [17]) (Fa := Ga) hgr9 hGG (by decide)
    have hg_3 := (hfr9 13 (by decide)).trans hg_3
    have hg_5 := (hfr9 19 (by decide)).trans hg_5
    have hf30 := (hfr9 29 (by decide)).trans hf30
    have hf36 := (hfr9 23 (by decide)).trans hf36
    obtain ⟨v45, hf44⟩ : ∃ z : Int32, F 14 = z := ⟨_, rfl⟩
    have hq_v45 := tk_rng v45
    rw [hf44] at hpo38 hpo39 hpo41 hpo42
    have hr_v45 : 0 ≤ v45.toInt ∧ v45.toInt ≤ 400 := hIF.at hf44
    obtain ⟨v47, hf46⟩ : ∃ z : Int32, F 15 = z := ⟨_, rfl⟩
    have hq_v47 := tk_rng v47
    rw [hf46] at hpo39 hpo40 hpo41 hpo42
    have hr_v47 : 0 ≤ v47.toInt ∧ v47.toInt ≤ 400 := hIF.at hf46
    obtain ⟨v49, hf48⟩ : ∃ z : Int32, F 16 = z := ⟨_, rfl⟩
    have hq_v49 := tk_rng v49
    rw [hf48] at hpo41 hpo42
    have hr_v49 : 0 ≤ v49.toInt ∧ v49.toInt ≤ 3 := hIF.at hf48
    obtain ⟨w51, hf50⟩ : ∃ z : Int64, G 17 = z := ⟨_, rfl⟩
    have hq_w51 := tk_rngL w51
    rw [hf50] at hpo42
    have hPI := hPI.to (hrr9 24 (by decide)) (hrr9 25 (by decide)) (hrr9 27 (by decide)) (hrr9 28 (by decide)) rfl rfl
    have hLo := And.intro (hLo.1.to (hrr9 24 (by decide))) (hLo.2.to (hrr9 25 (by decide)))
    have hSq := hSq.to (hrr9 27 (by decide)) (Nat.le_refl _)
    refine lv_iconst (v := 0) hx hb dX13_behindTest_74 (by decide) ?_
    have hk_0 : (0 : Int32).toInt = 0 := by decide
    exact mz_iret (v := 0) hx hb hr rfl hlocks ⟨hIF, hIG, hIR, hFF, hRR, hGG, (by rw [hf44, hf46]; omega), (by rw [hf46]; omega), (by rw [hf44, hf46, hf48]; omega), (by rw [hf44, hf46, hf48, hf50]; omega), (by rw [hf44]; omega), (by rw [hf44, hf36, hf30]; omega), (by rw [hf36]; omega), (by rw [hf44, hg_5]; omega), (by omega), (by omega), (fun _ => ⟨PT.mk hPI (by decide) (fun _ => hSq) (fun h9 => absurd h9 (by decide)) rfl rfl rfl rfl (by rw [hf36]) (by rw [hf30]), hLo⟩)⟩ hM hS dX13_behindTest_75
  · have hc11 : v1.toInt = 0 := (fi_eq rfl (show (0 : Int32).toInt = 0 by decide)).mp c9
    refine lv_aload_n hx hb dX13_behindTest_12 rfl (lv_at hl 1 rfl) ?_
    refine lv_ldc2 hx hb hown (htl _ mw_791) dX13_behindTest_13 ?_
    have hk_498 : (498 : Int64).toInt = 498 := by decide
    refine mz_Vj (As := [.long 498]) (rest := []) ⟨hx, hb, hml, hown, hts⟩ hK hM hS (k_X13_isWord l D cy ld ad am hD _ _ _ _ 498 gs gw hIF hIG hIR hg_2 hg_4) ⟨callB_of 1 hts (wl_in mw_709) rfl rfl rfl (htl _ mw_5) (htl _ mw_706) hd_yX13_isWord ⟨(Nat.le_of_ble_eq_true rfl), (Nat.le_of_ble_eq_true rfl)⟩, htl _ mw_707, htl _ mw_708⟩ rfl hl.1 rfl (Nat.le_of_ble_eq_true rfl) dX13_behindTest_16 ⟨(Nat.le_of_ble_eq_true rfl), (Nat.le_of_ble_eq_true rfl)⟩ (fun v52 H locs hpo hM hS => ?_)
    obtain ⟨hpo53, hpo54, hpo55, hpo56, hpo57⟩ := hpo
    have hq_v52 := tk_rng v52
    refine lv_if_eq (tgt := 76) hx hb dX13_behindTest_19 (by decide) (fun c9 => ?_) (fun c9 => ?_)
    · have hc59 : v52.toInt = 0 := (fi_eq rfl (show (0 : Int32).toInt = 0 by decide)).mp c9
      refine lv_aload_n hx hb dX13_behindTest_76 rfl (lv_at hl 1 rfl) ?_
      refine mz_Vj (As := []) (rest := []) ⟨hx, hb, hml, hown, hts⟩ hK hM hS (k_X13_inner l D cy ld ad am hD _ _ _ _ gd hIF hIG hIR hg_7) ⟨callB_of 0 hts (wl_in mw_777) rfl rfl rfl (htl _ mw_5) (htl _ mw_774) hd_yX13_inner ⟨(Nat.le_of_ble_eq_true rfl), (Nat.le_of_ble_eq_true rfl)⟩, htl _ mw_775, htl _ mw_776⟩ rfl hl.1 rfl (Nat.le_of_ble_eq_true rfl) dX13_behindTest_77 ⟨(Nat.le_of_ble_eq_true rfl), (Nat.le_of_ble_eq_true rfl)⟩ (fun v60 H locs hpo hM hS => ?_)
      have hx61 := hpo
      have hq_v60 := tk_rng v60
      have hinn := hx61
      refine lv_iconst (v := (-1)) hx hb dX13_behindTest_80 (by decide) ?_
      refine lv_icmp_ne (tgt := 86) hx hb dX13_behindTest_81 (by decide) (fun c9 => ?_) (fun c9 => ?_)
      · have hc63 : ¬ (v60.toInt = (-1)) := fun h9 => c9 ((fi_eq rfl (show ((-1) : Int32).toInt = (-1) by decide)).mpr h9)
        refine lv_aload_n hx hb dX13_behindTest_86 rfl (lv_at hl 1 rfl) ?_
        refine lv_aload_n hx hb dX13_behindTest_87 rfl (lv_at hl 1 rfl) ?_
        refine lv_bipush (v := 41) hx hb dX13_behindTest_88 (by decide) ?_
        have hk_41 : (41 : Int32).toInt = 41 := by decide
        refine mz_Vj (As := [.int 41]) (rest := [.ref am]) ⟨hx, hb, hml, hown, hts⟩ hK hM hS (k_X13_isSign l D cy ld ad am hD _ _ _ _ 41 gs hIF hIG hIR hg_2) ⟨callB_of 1 hts (wl_in mw_732) rfl rfl rfl (htl _ mw_5) (htl _ mw_729) hd_yX13_isSign ⟨(Nat.le_of_ble_eq_true rfl), (Nat.le_of_ble_eq_true rfl)⟩, htl _ mw_730, htl _ mw_731⟩ rfl hl.1 rfl (Nat.le_of_ble_eq_true rfl) dX13_behindTest_90 ⟨(Nat.le_of_ble_eq_true rfl), (Nat.le_of_ble_eq_true rfl)⟩ (fun v64 H locs hpo hM hS => ?_)
        obtain ⟨hpo65, hpo66, hpo67, hpo68, hpo69⟩ := hpo
        have hq_v64 := tk_rng v64
        refine mz_Vv (As := [.int v64]) (rest := []) ⟨hx, hb, hml, hown, hts⟩ hK hM hS (k_X13_must l D cy ld ad am hD _ _ _ _ v64 gf gt gs gp gw gb hIF hIG hIR hg_0 hg_1 hg_2 hg_3 hg_4 hg_5 (by omega) (by omega) (by omega) (by omega) (by omega) (by omega)) ⟨callB_of 1 hts (wl_in mw_713) rfl rfl rfl (htl _ mw_5) (htl _ mw_710) hd_yX13_must ⟨(Nat.le_of_ble_eq_true rfl), (Nat.le_of_ble_eq_true rfl)⟩, htl _ mw_711, htl _ mw_712⟩ rfl hl.1 rfl (Nat.le_of_ble_eq_true rfl) dX13_behindTest_93 ⟨(Nat.le_of_ble_eq_true rfl), (Nat.le_of_ble_eq_true rfl)⟩ (fun H locs F G R S hpo hM hS => ?_)
        obtain ⟨hIF, hIG, hIR, hfr9, hrr9, hgr9, hpo71, hpo72, hpo73, hpo74, hpo75, hpo76, hpo77, hpo78⟩ := hpo
        have hFF := mz_fr (K := [14, 15, 16, 18, 19, 23, 29, 30]) (Fa := Fa) hfr9 (fun _ _ => rfl) (by decide)
        have hRR := mz_fr (K := [24, 25, 27, 28]) (Fa := Ra) hrr9 (fun _ _ => rfl) (by decide)
        have hGG := mz_fr (K := [17]) (Fa := Ga) hgr9 (fun _ _ => rfl) (by decide)
        have hg_3 := (hfr9 13 (by decide)).trans hg_3
        have hg_6 := (hfr9 23 (by decide)).trans hg_6
        have hg_7 := (hfr9 29 (by decide)).trans hg_7
        obtain ⟨v81, hf80⟩ : ∃ z : Int32, F 14 = z := ⟨_, rfl⟩
        have hq_v81 := tk_rng v81
        rw [hf80] at hpo71 hpo73 hpo74 hpo75 hpo77
        have hr_v81 : 0 ≤ v81.toInt ∧ v81.toInt ≤ 400 := hIF.at hf80
        obtain ⟨v83, hf82⟩ : ∃ z : Int32, F 15 = z := ⟨_, rfl⟩
        have hq_v83 := tk_rng v83
        rw [hf82] at hpo71 hpo72 hpo73 hpo74
        have hr_v83 : 0 ≤ v83.toInt ∧ v83.toInt ≤ 400 := hIF.at hf82
        obtain ⟨v85, hf84⟩ : ∃ z : Int32, F 16 = z := ⟨_, rfl⟩
        have hq_v85 := tk_rng v85
        rw [hf84] at hpo73 hpo74
        have hr_v85 : 0 ≤ v85.toInt ∧ v85.toInt ≤ 3 := hIF.at hf84
        obtain ⟨w87, hf86⟩ : ∃ z : Int64, G 17 = z := ⟨_, rfl⟩
        have hq_w87 := tk_rngL w87
        rw [hf86] at hpo74
        obtain ⟨v89, hf88⟩ : ∃ z : Int32, F 19 = z := ⟨_, rfl⟩
        have hq_v89 := tk_rng v89
        rw [hf88] at hpo76 hpo77 hpo78
        have hr_v89 : 0 ≤ v89.toInt ∧ v89.toInt ≤ 1 := hIF.at hf88
        have hPI := hPI.to (hrr9 24 (by decide)) (hrr9 25 (by decide)) (hrr9 27 (by decide)) (hrr9 28 (by decide)) rfl rfl
        have hLo := And.intro (hLo.1.to (hrr9 24 (by decide))) (hLo.2.to (hrr9 25 (by decide)))
        have hSq := hSq.to (hrr9 27 (by decide)) (Nat.le_refl _)
        have hinn0 := hinn
        have hinn : inn (R 27) gd.toInt.toNat v60.toInt := by rw [hrr9 27 (by decide)]; exact hinn0
        refine lv_aload_n hx hb dX13_behindTest_96 rfl (lv_at hl 1 rfl) ?_
        refine mz_getI hx hb htl hown hK hM 19 (Nat.le_of_ble_eq_true rfl) rfl (htl _ mw_668) (fun _ h9 => h9) dX13_behindTest_97 (fun v9 e9 => ?_)
        refine fx_ti (v := v89) (e9.symm.trans hf88) ?_
        refine lv_if_ne (tgt := 128) hx hb dX13_behindTest_100 (by decide) (fun c9 => ?_) (fun c9 => ?_)
        · have hc90 : ¬ (v89.toInt = 0) := fun h9 => c9 ((fi_eq rfl (show (0 : Int32).toInt = 0 by decide)).mpr h9)
          refine lv_iconst (v := 2) hx hb dX13_behindTest_128 (by decide) ?_
          have hk_2 : (2 : Int32).toInt = 2 := by decide
          exact mz_iret (v := 2) hx hb hr rfl hlocks ⟨hIF, hIG, hIR, hFF, hRR, hGG, (by rw [hf80, hf82]; omega), (by rw [hf82]; omega), (by rw [hf80, hf82, hf84]; omega), (by rw [hf80, hf82, hf84, hf86]; omega), (by rw [hf80]; omega), (by rw [hf80, hg_6, hg_7]; omega), (by rw [hg_6]; omega), (by rw [hf80, hf88]; omega), (by omega), (by omega), (by rw [hf88]; exact fun h9 => absurd h9 (by omega))⟩ hM hS dX13_behindTest_129
        · have hc90 : v89.toInt = 0 := (fi_eq rfl (show (0 : Int32).toInt = 0 by decide)).mp c9
          have hwk_91 : 0 ≤ (-1) * gt.toInt + v81.toInt ∧ 1 ≤ v64.toInt := by omega
          have hwk_92 : gs.toInt + (-3) = 0 := by omega
          have hwk_93 : 0 ≤ (-1) * gf.toInt + gt.toInt + (-1) := by omega
          refine lv_aload_n hx hb dX13_behindTest_103 rfl (lv_at hl 1 rfl) ?_
          refine lv_iconst (v := 1) hx hb dX13_behindTest_104 (by decide) ?_
          have hk_1 : (1 : Int32).toInt = 1 := by decide
          refine mz_Vv (As := [.int 1]) (rest := []) ⟨hx, hb, hml, hown, hts⟩ hK hM hS (k_X13_settle l D cy ld ad am hD _ _ _ _ 1 gc gd v89 zs hIF hIG hIR hg_6 hg_7 hf88 (by omega) (by omega) (by omega) (fun _ => hPI)) ⟨callB_of 1 hts (wl_in mw_773) rfl rfl rfl (htl _ mw_5) (htl _ mw_770) hd_yX13_settle ⟨(Nat.le_of_ble_eq_true rfl), (Nat.le_of_ble_eq_true rfl)⟩, htl _ mw_771, htl _ mw_772⟩ rfl hl.1 rfl (Nat.le_of_ble_eq_true rfl) dX13_behindTest_105 ⟨(Nat.le_of_ble_eq_true rfl), (Nat.le_of_ble_eq_true rfl)⟩ (fun H locs F G R S hpo hM hS => ?_)
          obtain ⟨hIF, hIG, hIR, hfr9, hrr9, hgr9, hpo94, hpo95, hpo96, hx97, hx98, hx99⟩ := hpo
          have hFF := mz_fr (K := [14, 15, 16, 18, 19, 23, 29, 30]) (Fa := Fa) hfr9 hFF (by decide)
          have hRR := mz_fr (K := [24, 25, 27, 28]) (Fa := Ra) hrr9 hRR (by decide)
          have hGG := mz_fr (K := [17]) (Fa := Ga) hgr9 hGG (by decide)
          have hg_3 := (hfr9 13 (by decide)).trans hg_3
          have hf80 := (hfr9 14 (by decide)).trans hf80
          have hf82 := (hfr9 15 (by decide)).trans hf82
          have hf84 := (hfr9 16 (by decide)).trans hf84
          have hf86 := (hgr9 17 (by decide)).trans hf86
          have hf88 := (hfr9 19 (by decide)).trans hf88
          obtain ⟨v102, hf101⟩ : ∃ z : Int32, F 23 = z := ⟨_, rfl⟩
          have hq_v102 := tk_rng v102
          rw [hf101] at hpo94 hpo96
          have hr_v102 : 0 ≤ v102.toInt ∧ v102.toInt ≤ 400 := hIF.at hf101
          obtain ⟨v104, hf103⟩ : ∃ z : Int32, F 29 = z := ⟨_, rfl⟩
          have hq_v104 := tk_rng v104
          rw [hf103] at hpo94 hpo95
          have hr_v104 : 0 ≤ v104.toInt ∧ v104.toInt ≤ 400 := hIF.at hf103
          have hs9 := hx97 (by omega)
          rw [hf101, hf103] at hs9
          have hPI : PI (R 24) (R 25) (R 27) (R 28) zs v102.toInt.toNat v104.toInt.toNat 1 := hs9.1
          have hLo := And.intro (hLo.1.trans hs9.2.1 (Nat.le_refl _)) (hLo.2.trans hs9.2.2 (Nat.le_refl _))
          rw [hf103] at hx98 hx99
          have hsb := hx98
          have hst := hx99
          have hSq := hSq.to (pd1 := v104.toInt.toNat) (hrr9 27 (by decide)) (by omega)
          have hinn0 := hinn
          have hinn : inn (R 27) gd.toInt.toNat v60.toInt := by rw [hrr9 27 (by decide)]; exact hinn0
          have e27 := hrr9 27 (by decide)
          obtain ⟨g1, j9, g2, g3, g4⟩ := hinn0.2 (by omega)
          have h1 := hsb j9 (by omega) (by omega)
          have hd1 : 1 ≤ v104.toInt := by omega
          have htp : 31 ≤ (R 27 (v104.toInt - 1).toNat).toInt := by rw [e27]; exact (hst hd1).1 (by decide)
          have hPI := PI.popbr (pd := (v104.toInt - 1).toNat) (hPI.to rfl rfl rfl rfl rfl (by omega)) htp
          refine lv_aload_n hx hb dX13_behindTest_108 rfl (lv_at hl 1 rfl) ?_
          refine lv_dup hx hb dX13_behindTest_109 rfl ?_
          refine mz_getI hx hb htl hown hK hM 29 (Nat.le_of_ble_eq_true rfl) rfl (htl _ mw_718) (fun _ h9 => h9) dX13_behindTest_110 (fun v9 e9 => ?_)
          refine fx_ti (v := v104) (e9.symm.trans hf103) ?_
          refine lv_iconst (v := 1) hx hb dX13_behindTest_113 (by decide) ?_
          refine lv_isub hx hb dX13_behindTest_114 ?_
          refine tk_sub rfl (show (1 : Int32).toInt = 1 by decide) (by omega) (by omega) (fun v105 h_v105 => ?_)
          refine mz_putI (ty := .int) (x := v105) hx hb htl hown hK hD hM hS 29 (Nat.le_of_ble_eq_true rfl) rfl (htl _ mw_718) (fun _ h9 => h9) rfl (tyX13_ok 29 (by decide)) rfl rfl dX13_behindTest_115 (fun H locs F hM hS hf9 hj9 => ?_)
          have hIF := hIF.put hf9 hj9 (show 0 ≤ (v105 : Int32).toInt by omega) (show (v105 : Int32).toInt ≤ 400 by omega) (by decide)
          have hFF := mz_frp (K := [14, 15, 16, 18, 19, 23, 29, 30]) (Fa := Fa) hj9 hFF (by decide)
          have hg_3 := (hj9 13 (by decide)).trans hg_3
          have hf80 := (hj9 14 (by decide)).trans hf80
          have hf82 := (hj9 15 (by decide)).trans hf82
          have hf84 := (hj9 16 (by decide)).trans hf84
          have hf88 := (hj9 19 (by decide)).trans hf88
          have hf101 := (hj9 23 (by decide)).trans hf101
          have hf107 := hf9
          have hPI : PI (R 24) (R 25) (R 27) (R 28) zs v102.toInt.toNat v105.toInt.toNat 1 := hPI.to rfl rfl rfl rfl rfl (by omega)
          have hSq : nSq (R 27) v105.toInt.toNat := hSq.to rfl (by omega)
          refine lv_aload_n hx hb dX13_behindTest_118 rfl (lv_at hl 1 rfl) ?_
          refine lv_dup hx hb dX13_behindTest_119 rfl ?_
          refine mz_getI hx hb htl hown hK hM 30 (Nat.le_of_ble_eq_true rfl) rfl (htl _ mw_719) (fun _ h9 => h9) dX13_behindTest_120 (fun v109 hf108 => ?_)
          have hq_v109 := tk_rng v109
          refine lv_iconst (v := 1) hx hb dX13_behindTest_123 (by decide) ?_
          refine lv_isub hx hb dX13_behindTest_124 ?_
          obtain ⟨v110, hm_v110⟩ : ∃ z : Int32, v109 - 1 = z := ⟨_, rfl⟩
          refine fx_ti hm_v110 ?_
          refine mz_putI (ty := .int) (x := v110) hx hb htl hown hK hD hM hS 30 (Nat.le_of_ble_eq_true rfl) rfl (htl _ mw_719) (fun _ h9 => h9) rfl (tyX13_ok 30 (by decide)) rfl rfl dX13_behindTest_125 (fun H locs F hM hS hf9 hj9 => ?_)
          have hIF := hIF.put hf9 hj9 (tk_rng _).1 (tk_rng _).2 (by decide)
          have hFF := mz_frp (K := [14, 15, 16, 18, 19, 23, 29, 30]) (Fa := Fa) hj9 hFF (by decide)
          have hg_3 := (hj9 13 (by decide)).trans hg_3
          have hf80 := (hj9 14 (by decide)).trans hf80
          have hf82 := (hj9 15 (by decide)).trans hf82
          have hf84 := (hj9 16 (by decide)).trans hf84
          have hf88 := (hj9 19 (by decide)).trans hf88
          have hf101 := (hj9 23 (by decide)).trans hf101
          have hf107 := (hj9 29 (by decide)).trans hf107
          have hf112 := hf9
          refine lv_iconst (v := 2) hx hb dX13_behindTest_128 (by decide) ?_
          have hk_2 : (2 : Int32).toInt = 2 := by decide
          exact mz_iret (v := 2) hx hb hr rfl hlocks ⟨hIF, hIG, hIR, hFF, hRR, hGG, (by rw [hf80, hf82]; omega), (by rw [hf82]; omega), (by rw [hf80, hf82, hf84]; omega), (by rw [hf80, hf82, hf84, hf86]; omega), (by rw [hf80]; omega), (by rw [hf80, hf101, hf107]; omega), (by rw [hf101]; omega), (by rw [hf80, hf88]; omega), (by omega), (by omega), (fun _ => ⟨PT.mk hPI (by decide) (fun _ => hSq) (fun h9 => absurd h9 (by decide)) rfl rfl rfl rfl (by rw [hf101]) (by rw [hf107]), hLo⟩)⟩ hM hS dX13_behindTest_129
      · have hc63 : v60.toInt = (-1) := (fi_eq rfl (show ((-1) : Int32).toInt = (-1) by decide)).mp c9
        refine lv_iconst (v := 4) hx hb dX13_behindTest_84 (by decide) ?_
        have hk_4 : (4 : Int32).toInt = 4 := by decide
        have hBr := hinn.1 (by omega)
        exact mz_iret (v := 4) hx hb hr rfl hlocks ⟨hIF, hIG, hIR, (fun _ _ => rfl), (fun _ _ => rfl), (fun _ _ => rfl), (by rw [hg_0, hg_1]; omega), (by rw [hg_1]; omega), (by rw [hg_0, hg_1, hg_2]; omega), (by rw [hg_0, hg_1, hg_2, hg_4]; omega), (by rw [hg_0]; omega), (by rw [hg_0, hg_6, hg_7]; omega), (by rw [hg_6]; omega), (by rw [hg_0, hg_5]; omega), (by omega), (by omega), (fun _ => ⟨PT.mk hPI (by decide) (fun h9 => absurd h9 (by decide)) (fun _ => hBr) rfl rfl rfl rfl (by rw [hg_6]) (by rw [hg_7]), hLo⟩)⟩ hM hS dX13_behindTest_85
    · have hc59 : ¬ (v52.toInt = 0) := fun h9 => c9 ((fi_eq rfl (show (0 : Int32).toInt = 0 by decide)).mpr h9)
      have hwk_113 : gw.toInt + (-498) = 0 ∧ gs.toInt + (-1) = 0 := by omega
      have hwk_114 : 0 ≤ (-1) * gf.toInt + gt.toInt + (-1) := by omega
      have hwk_115 : 0 ≤ (-1) * gf.toInt + gt.toInt + (-2) := by omega
      refine lv_aload_n hx hb dX13_behindTest_22 rfl (lv_at hl 1 rfl) ?_
      refine lv_iload_n hx hb dX13_behindTest_23 rfl (lv_at hl 0 rfl) ?_
      refine lv_if_eq (tgt := 31) hx hb dX13_behindTest_24 (by decide) (fun _ => ?_) (fun c9 => absurd ((fi_eq rfl (show (0 : Int32).toInt = 0 by decide)).mpr (show v1.toInt = 0 by omega)) c9)
      refine lv_iconst (v := 1) hx hb dX13_behindTest_31 (by decide) ?_
      have hk_1 : (1 : Int32).toInt = 1 := by decide
      refine mz_Vv (As := [.int 1]) (rest := []) ⟨hx, hb, hml, hown, hts⟩ hK hM hS (k_X13_settle l D cy ld ad am hD _ _ _ _ 1 gc gd gb zs hIF hIG hIR hg_6 hg_7 hg_5 (by omega) (by omega) (by omega) (fun _ => hPI)) ⟨callB_of 1 hts (wl_in mw_773) rfl rfl rfl (htl _ mw_5) (htl _ mw_770) hd_yX13_settle ⟨(Nat.le_of_ble_eq_true rfl), (Nat.le_of_ble_eq_true rfl)⟩, htl _ mw_771, htl _ mw_772⟩ rfl hl.1 rfl (Nat.le_of_ble_eq_true rfl) dX13_behindTest_32 ⟨(Nat.le_of_ble_eq_true rfl), (Nat.le_of_ble_eq_true rfl)⟩ (fun H locs F G R S hpo hM hS => ?_)
      obtain ⟨hIF, hIG, hIR, hfr9, hrr9, hgr9, hpo116, hpo117, hpo118, hx119, hx120, hx121⟩ := hpo
      have hFF := mz_fr (K := [14, 15, 16, 18, 19, 23, 29, 30]) (Fa := Fa) hfr9 (fun _ _ => rfl) (by decide)
      have hRR := mz_fr (K := [24, 25, 27, 28]) (Fa := Ra) hrr9 (fun _ _ => rfl) (by decide)
      have hGG := mz_fr (K := [17]) (Fa := Ga) hgr9 (fun _ _ => rfl) (by decide)
      have hg_0 := (hfr9 14 (by decide)).trans hg_0
      have hg_1 := (hfr9 15 (by decide)).trans hg_1
      have hg_2 := (hfr9 16 (by decide)).trans hg_2
      have hg_3 := (hfr9 13 (by decide)).trans hg_3
      have hg_4 := (hgr9 17 (by decide)).trans hg_4
      have hg_5 := (hfr9 19 (by decide)).trans hg_5
      obtain ⟨v124, hf123⟩ : ∃ z : Int32, F 23 = z := ⟨_, rfl⟩
      have hq_v124 := tk_rng v124
      rw [hf123] at hpo116 hpo118
      have hr_v124 : 0 ≤ v124.toInt ∧ v124.toInt ≤ 400 := hIF.at hf123
      obtain ⟨v126, hf125⟩ : ∃ z : Int32, F 29 = z := ⟨_, rfl⟩
      have hq_v126 := tk_rng v126
      rw [hf125] at hpo116 hpo117
      have hr_v126 : 0 ≤ v126.toInt ∧ v126.toInt ≤ 400 := hIF.at hf125
      have hs9 := hx119 (by omega)
      rw [hf123, hf125] at hs9
      have hPI : PI (R 24) (R 25) (R 27) (R 28) zs v124.toInt.toNat v126.toInt.toNat 1 := hs9.1
      have hLo := And.intro (hLo.1.trans hs9.2.1 (Nat.le_refl _)) (hLo.2.trans hs9.2.2 (Nat.le_refl _))
      rw [hf125] at hx120 hx121
      have hsb := hx120
      have hst := hx121
      have hSq := hSq.to (pd1 := v126.toInt.toNat) (hrr9 27 (by decide)) (by omega)
      refine lv_aload_n hx hb dX13_behindTest_35 rfl (lv_at hl 1 rfl) ?_
      refine lv_iload_n hx hb dX13_behindTest_36 rfl (lv_at hl 0 rfl) ?_
      refine lv_if_eq (tgt := 45) hx hb dX13_behindTest_37 (by decide) (fun _ => ?_) (fun c9 => absurd ((fi_eq rfl (show (0 : Int32).toInt = 0 by decide)).mpr (show v1.toInt = 0 by omega)) c9)
      refine lv_bipush (v := 30) hx hb dX13_behindTest_45 (by decide) ?_
      refine lv_aload_n hx hb dX13_behindTest_47 rfl (lv_at hl 1 rfl) ?_
      refine mz_getI hx hb htl hown hK hM 23 (Nat.le_of_ble_eq_true rfl) rfl (htl _ mw_670) (fun _ h9 => h9) dX13_behindTest_48 (fun v9 e9 => ?_)
      refine fx_ti (v := v124) (e9.symm.trans hf123) ?_
      have hk_30 : (30 : Int32).toInt = 30 := by decide
      refine mz_Vv (As := [.int 30, .int v124]) (rest := []) ⟨hx, hb, hml, hown, hts⟩ hK hM hS (k_X13_push l D cy ld ad am hD _ _ _ _ 30 v124 v126 hIF hIG hIR hf125 (by omega) (by omega) (by omega)) ⟨callB_of 2 hts (wl_in mw_728) rfl rfl rfl (htl _ mw_5) (htl _ mw_725) hd_yX13_push ⟨(Nat.le_of_ble_eq_true rfl), (Nat.le_of_ble_eq_true rfl)⟩, htl _ mw_726, htl _ mw_727⟩ rfl hl.1 rfl (Nat.le_of_ble_eq_true rfl) dX13_behindTest_51 ⟨(Nat.le_of_ble_eq_true rfl), (Nat.le_of_ble_eq_true rfl)⟩ (fun H locs F G R S hpo hM hS => ?_)
      obtain ⟨hIF, hIG, hIR, hfr9, hrr9, hgr9, hpo127, hx128, hx129⟩ := hpo
      have hFF := mz_fr (K := [14, 15, 16, 18, 19, 23, 29, 30]) (Fa := Fa) hfr9 hFF (by decide)
      have hRR := mz_fr (K := [24, 25, 27, 28]) (Fa := Ra) hrr9 hRR (by decide)
      have hGG := mz_fr (K := [17]) (Fa := Ga) hgr9 hGG (by decide)
      have hg_0 := (hfr9 14 (by decide)).trans hg_0
      have hg_1 := (hfr9 15 (by decide)).trans hg_1
      have hg_2 := (hfr9 16 (by decide)).trans hg_2
      have hg_3 := (hfr9 13 (by decide)).trans hg_3
      have hg_4 := (hgr9 17 (by decide)).trans hg_4
      have hg_5 := (hfr9 19 (by decide)).trans hg_5
      have hf123 := (hfr9 23 (by decide)).trans hf123
      obtain ⟨v132, hf131⟩ : ∃ z : Int32, F 29 = z := ⟨_, rfl⟩
      have hq_v132 := tk_rng v132
      rw [hf131] at hpo127
      have hr_v132 : 0 ≤ v132.toInt ∧ v132.toInt ≤ 400 := hIF.at hf131
      have hq27 : R 27 = _ := hx128
      have hq28 : R 28 = _ := hx129
      have hPI := hPI.to (hrr9 24 (by decide)) (hrr9 25 (by decide)) rfl rfl rfl rfl
      have hLo := And.intro (hLo.1.to (hrr9 24 (by decide))) (hLo.2.to (hrr9 25 (by decide)))
      refine lv_aload_n hx hb dX13_behindTest_54 rfl (lv_at hl 1 rfl) ?_
      refine lv_iload_n hx hb dX13_behindTest_55 rfl (lv_at hl 0 rfl) ?_
      refine lv_if_eq (tgt := 64) hx hb dX13_behindTest_56 (by decide) (fun _ => ?_) (fun c9 => absurd ((fi_eq rfl (show (0 : Int32).toInt = 0 by decide)).mpr (show v1.toInt = 0 by omega)) c9)
      refine lv_bipush (v := 30) hx hb dX13_behindTest_64 (by decide) ?_
      refine lv_iconst (v := 0) hx hb dX13_behindTest_66 (by decide) ?_
      have hk_30 : (30 : Int32).toInt = 30 := by decide
      have hk_0 : (0 : Int32).toInt = 0 := by decide
      refine mz_Vv (As := [.int 30, .int 0]) (rest := []) ⟨hx, hb, hml, hown, hts⟩ hK hM hS (k_X13_emit l D cy ld ad am hD _ _ _ _ 30 0 v124 hIF hIG hIR hf123 (by omega)) ⟨callB_of 2 hts (wl_in mw_758) rfl rfl rfl (htl _ mw_5) (htl _ mw_755) hd_yX13_emit ⟨(Nat.le_of_ble_eq_true rfl), (Nat.le_of_ble_eq_true rfl)⟩, htl _ mw_756, htl _ mw_757⟩ rfl hl.1 rfl (Nat.le_of_ble_eq_true rfl) dX13_behindTest_67 ⟨(Nat.le_of_ble_eq_true rfl), (Nat.le_of_ble_eq_true rfl)⟩ (fun H locs F G R S hpo hM hS => ?_)
      obtain ⟨hIF, hIG, hIR, hfr9, hrr9, hgr9, hpo133, hx134, hx135⟩ := hpo
      have hFF := mz_fr (K := [14, 15, 16, 18, 19, 23, 29, 30]) (Fa := Fa) hfr9 hFF (by decide)
      have hRR := mz_fr (K := [24, 25, 27, 28]) (Fa := Ra) hrr9 hRR (by decide)
      have hGG := mz_fr (K := [17]) (Fa := Ga) hgr9 hGG (by decide)
      have hg_0 := (hfr9 14 (by decide)).trans hg_0
      have hg_1 := (hfr9 15 (by decide)).trans hg_1
      have hg_2 := (hfr9 16 (by decide)).trans hg_2
      have hg_3 := (hfr9 13 (by decide)).trans hg_3
      have hg_4 := (hgr9 17 (by decide)).trans hg_4
      have hg_5 := (hfr9 19 (by decide)).trans hg_5
      have hf131 := (hfr9 29 (by decide)).trans hf131
      obtain ⟨v138, hf137⟩ : ∃ z : Int32, F 23 = z := ⟨_, rfl⟩
      have hq_v138 := tk_rng v138
      rw [hf137] at hpo133
      have hr_v138 : 0 ≤ v138.toInt ∧ v138.toInt ≤ 400 := hIF.at hf137
      have hz9 := hPI.1
      have hPI : PI (R 24) (R 25) (R 27) (R 28) zs v138.toInt.toNat v132.toInt.toNat 0 := (PI.andor (o := 30) hPI (by decide) (by decide) hSq (show v124.toInt = _ by omega) hq27 hq28 hx134 hx135).to rfl rfl (hrr9 27 (by decide)) (hrr9 28 (by decide)) (by omega) (by omega)
      have hLo := And.intro ((hLo.1.upd hz9).to hx134) ((hLo.2.upd hz9).to hx135)
      have hSq : nSq (R 27) v132.toInt.toNat := (hSq.push hq27 (by decide)).to (hrr9 27 (by decide)) (by omega)
      refine lv_aload_n hx hb dX13_behindTest_70 rfl (lv_at hl 1 rfl) ?_
      refine mz_Vv (As := []) (rest := []) ⟨hx, hb, hml, hown, hts⟩ hK hM hS (k_X13_next l D cy ld ad am hD _ _ _ _ gt gp hIF hIG hIR hg_1 hg_3 (by omega)) ⟨callB_of 0 hts (wl_in mw_685) rfl rfl rfl (htl _ mw_5) (htl _ mw_682) hd_yX13_next ⟨(Nat.le_of_ble_eq_true rfl), (Nat.le_of_ble_eq_true rfl)⟩, htl _ mw_683, htl _ mw_684⟩ rfl hl.1 rfl (Nat.le_of_ble_eq_true rfl) dX13_behindTest_71 ⟨(Nat.le_of_ble_eq_true rfl), (Nat.le_of_ble_eq_true rfl)⟩ (fun H locs F G R S hpo hM hS => ?_)
      obtain ⟨hIF, hIG, hIR, hfr9, hrr9, hgr9, hpo139, hpo140, hpo141, hpo142, hpo143⟩ := hpo
      have hFF := mz_fr (K := [14, 15, 16, 18, 19, 23, 29, 30]) (Fa := Fa) hfr9 hFF (by decide)
      have hRR := mz_fr (K := [24, 25, 27, 28]) (Fa := Ra) hrr9 hRR (by decide)
      have hGG := mz_fr (K := [17]) (Fa := Ga) hgr9 hGG (by decide)
      have hg_3 := (hfr9 13 (by decide)).trans hg_3
      have hg_5 := (hfr9 19 (by decide)).trans hg_5
      have hf131 := (hfr9 29 (by decide)).trans hf131
      have hf137 := (hfr9 23 (by decide)).trans hf137
      obtain ⟨v146, hf145⟩ : ∃ z : Int32, F 14 = z := ⟨_, rfl⟩
      have hq_v146 := tk_rng v146
      rw [hf145] at hpo139 hpo140 hpo142 hpo143
      have hr_v146 : 0 ≤ v146.toInt ∧ v146.toInt ≤ 400 := hIF.at hf145
      obtain ⟨v148, hf147⟩ : ∃ z : Int32, F 15 = z := ⟨_, rfl⟩
      have hq_v148 := tk_rng v148
      rw [hf147] at hpo140 hpo141 hpo142 hpo143
      have hr_v148 : 0 ≤ v148.toInt ∧ v148.toInt ≤ 400 := hIF.at hf147
      obtain ⟨v150, hf149⟩ : ∃ z : Int32, F 16 = z := ⟨_, rfl⟩
      have hq_v150 := tk_rng v150
      rw [hf149] at hpo142 hpo143
      have hr_v150 : 0 ≤ v150.toInt ∧ v150.toInt ≤ 3 := hIF.at hf149
      obtain ⟨w152, hf151⟩ : ∃ z : Int64, G 17 = z := ⟨_, rfl⟩
      have hq_w152 := tk_rngL w152
      rw [hf151] at hpo143
      have hPI := hPI.to (hrr9 24 (by decide)) (hrr9 25 (by decide)) (hrr9 27 (by decide)) (hrr9 28 (by decide)) rfl rfl
      have hLo := And.intro (hLo.1.to (hrr9 24 (by decide))) (hLo.2.to (hrr9 25 (by decide)))
      have hSq := hSq.to (hrr9 27 (by decide)) (Nat.le_refl _)
      refine lv_iconst (v := 0) hx hb dX13_behindTest_74 (by decide) ?_
      have hk_0 : (0 : Int32).toInt = 0 := by decide
      exact mz_iret (v := 0) hx hb hr rfl hlocks ⟨hIF, hIG, hIR, hFF, hRR, hGG, (by rw [hf145, hf147]; omega), (by rw [hf147]; omega), (by rw [hf145, hf147, hf149]; omega), (by rw [hf145, hf147, hf149, hf151]; omega), (by rw [hf145]; omega), (by rw [hf145, hf137, hf131]; omega), (by rw [hf137]; omega), (by rw [hf145, hg_5]; omega), (by omega), (by omega), (fun _ => ⟨PT.mk hPI (by decide) (fun _ => hSq) (fun h9 => absurd h9 (by decide)) rfl rfl rfl rfl (by rw [hf137]) (by rw [hf131]), hLo⟩)⟩ hM hS dX13_behindTest_75
