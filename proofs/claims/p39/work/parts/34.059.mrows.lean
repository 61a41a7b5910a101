theorem hd_yX13_behindTest : yX13_behindTest.cls ≠ "java/lang/invoke/MethodHandle" ∧ yX13_behindTest.cls ≠ "java/lang/invoke/VarHandle" ∧ (parseMethodDescriptor yX13_behindTest.desc).map (fun d => d.parameters.length) = some 0 := by decide +kernel
theorem hd_yX13_behindSum : yX13_behindSum.cls ≠ "java/lang/invoke/MethodHandle" ∧ yX13_behindSum.cls ≠ "java/lang/invoke/VarHandle" ∧ (parseMethodDescriptor yX13_behindSum.desc).map (fun d => d.parameters.length) = some 1 := by decide +kernel
theorem hd_yX13_readPlain : yX13_readPlain.cls ≠ "java/lang/invoke/MethodHandle" ∧ yX13_readPlain.cls ≠ "java/lang/invoke/VarHandle" ∧ (parseMethodDescriptor yX13_readPlain.desc).map (fun d => d.parameters.length) = some 0 := by decide +kernel
theorem dX13_readExpression_0 : decode cX13_readExpression 0 = .ok (.aload_n 0, 1) := by decide +kernel
theorem dX13_readExpression_1 : decode cX13_readExpression 1 = .ok (.iconst 0, 1) := by decide +kernel
theorem dX13_readExpression_2 : decode cX13_readExpression 2 = .ok (.putfield 278, 3) := by decide +kernel
theorem dX13_readExpression_5 : decode cX13_readExpression 5 = .ok (.aload_n 0, 1) := by decide +kernel
theorem dX13_readExpression_6 : decode cX13_readExpression 6 = .ok (.iconst 0, 1) := by decide +kernel
theorem dX13_readExpression_7 : decode cX13_readExpression 7 = .ok (.putfield 300, 3) := by decide +kernel
theorem dX13_readExpression_10 : decode cX13_readExpression 10 = .ok (.iload_n 1, 1) := by decide +kernel
theorem dX13_readExpression_11 : decode cX13_readExpression 11 = .ok (.ifCond .eq 7, 3) := by decide +kernel
theorem dX13_readExpression_18 : decode cX13_readExpression 18 = .ok (.iconst 1, 1) := by decide +kernel
theorem dX13_readExpression_19 : decode cX13_readExpression 19 = .ok (.istore_n 2, 1) := by decide +kernel
theorem dX13_readExpression_20 : decode cX13_readExpression 20 = .ok (.aload_n 0, 1) := by decide +kernel
theorem dX13_readExpression_21 : decode cX13_readExpression 21 = .ok (.getfield 236, 3) := by decide +kernel
theorem dX13_readExpression_24 : decode cX13_readExpression 24 = .ok (.ifCond .ne 52, 3) := by decide +kernel
theorem dX13_readExpression_76 : decode cX13_readExpression 76 = .ok (.aload_n 0, 1) := by decide +kernel
theorem dX13_readExpression_77 : decode cX13_readExpression 77 = .ok (.iconst 1, 1) := by decide +kernel
theorem dX13_readExpression_78 : decode cX13_readExpression 78 = .ok (.invokevirtual 342, 3) := by decide +kernel
theorem dX13_readExpression_81 : decode cX13_readExpression 81 = .ok (.return_, 1) := by decide +kernel
theorem dX13_readExpression_27 : decode cX13_readExpression 27 = .ok (.iload_n 2, 1) := by decide +kernel
theorem dX13_readExpression_28 : decode cX13_readExpression 28 = .ok (.iconst 4, 1) := by decide +kernel
theorem dX13_readExpression_29 : decode cX13_readExpression 29 = .ok (.if_icmp .eq 47, 3) := by decide +kernel
theorem dX13_readExpression_32 : decode cX13_readExpression 32 = .ok (.iload_n 2, 1) := by decide +kernel
theorem dX13_readExpression_33 : decode cX13_readExpression 33 = .ok (.ifCond .ne 10, 3) := by decide +kernel
theorem dX13_readExpression_43 : decode cX13_readExpression 43 = .ok (.iload_n 2, 1) := by decide +kernel
theorem dX13_readExpression_44 : decode cX13_readExpression 44 = .ok (.iconst 1, 1) := by decide +kernel
theorem dX13_readExpression_45 : decode cX13_readExpression 45 = .ok (.if_icmp .ne 10, 3) := by decide +kernel
theorem dX13_readExpression_55 : decode cX13_readExpression 55 = .ok (.iload_n 2, 1) := by decide +kernel
theorem dX13_readExpression_56 : decode cX13_readExpression 56 = .ok (.iconst 3, 1) := by decide +kernel
theorem dX13_readExpression_57 : decode cX13_readExpression 57 = .ok (.if_icmp .ne 11, 3) := by decide +kernel
theorem dX13_readExpression_68 : decode cX13_readExpression 68 = .ok (.aload_n 0, 1) := by decide +kernel
theorem dX13_readExpression_69 : decode cX13_readExpression 69 = .ok (.invokevirtual 363, 3) := by decide +kernel
theorem dX13_readExpression_72 : decode cX13_readExpression 72 = .ok (.istore_n 2, 1) := by decide +kernel
theorem dX13_readExpression_73 : decode cX13_readExpression 73 = .ok (.goto (-53), 3) := by decide +kernel
theorem dX13_readExpression_60 : decode cX13_readExpression 60 = .ok (.aload_n 0, 1) := by decide +kernel
theorem dX13_readExpression_61 : decode cX13_readExpression 61 = .ok (.iload_n 1, 1) := by decide +kernel
theorem dX13_readExpression_62 : decode cX13_readExpression 62 = .ok (.invokevirtual 359, 3) := by decide +kernel
theorem dX13_readExpression_65 : decode cX13_readExpression 65 = .ok (.goto 7, 3) := by decide +kernel
theorem dX13_readExpression_48 : decode cX13_readExpression 48 = .ok (.aload_n 0, 1) := by decide +kernel
theorem dX13_readExpression_49 : decode cX13_readExpression 49 = .ok (.invokevirtual 339, 3) := by decide +kernel
theorem dX13_readExpression_52 : decode cX13_readExpression 52 = .ok (.goto 20, 3) := by decide +kernel
theorem dX13_readExpression_36 : decode cX13_readExpression 36 = .ok (.aload_n 0, 1) := by decide +kernel
theorem dX13_readExpression_37 : decode cX13_readExpression 37 = .ok (.invokevirtual 356, 3) := by decide +kernel
theorem dX13_readExpression_40 : decode cX13_readExpression 40 = .ok (.goto 32, 3) := by decide +kernel
theorem dX13_readExpression_14 : decode cX13_readExpression 14 = .ok (.iconst 0, 1) := by decide +kernel
theorem dX13_readExpression_15 : decode cX13_readExpression 15 = .ok (.goto 4, 3) := by decide +kernel
set_option maxHeartbeats 4000000 in
set_option maxRecDepth 100000 in
theorem k_X13_readExpression (l : Launch) (D : va_G) (cy : Nat → ClassId) (ld ad : Nat → Nat) (am : Nat) (hD : mz_D ad am) (Fa : Nat → Int32) (Ga : Nat → Int64) (Ra : Nat → Nat → Int32) (Sa : Nat → Nat → Int64) (p1 : Int32) (gf : Int32) (gt : Int32) (gs : Int32) (gp : Int32) (gw : Int64) (gb : Int32) (gc : Int32) (hIF : mz_IF false Fa) (hIG : mz_IG Ga) (hIR : mz_IR [] true Ra) (hg_0 : Fa 14 = gf) (hg_1 : Fa 15 = gt) (hg_2 : Fa 16 = gs) (hg_3 : Fa 13 = gp) (hg_4 : Ga 17 = gw) (hg_5 : Fa 19 = gb) (hg_6 : Fa 23 = gc) (hp_0 : 0 ≤ p1.toInt) (hp_1 : p1.toInt ≤ 1) (hp_2 : 0 ≤ (-1) * gf.toInt + gt.toInt) (hp_3 : 0 ≤ gp.toInt + (-1) * gt.toInt) (hp_4 : (1 ≤ gs.toInt → 0 ≤ (-1) * gf.toInt + gt.toInt + (-1))) (hp_5 : (27 ≤ gw.toInt → 1 ≤ gs.toInt → gs.toInt ≤ 1 → 0 ≤ (-1) * gf.toInt + gt.toInt + (-2))) (hp_6 : 0 ≤ (-1) * gc.toInt + gf.toInt) (hp_7 : gb.toInt ≤ 0) : Met l yX13_readExpression (wl yX13_readExpression cX13_readExpression 3 none) ({ frames := 9, cells := 0, slots := 0, locals := 560 }) (mz_p D cy ld ad am Fa Ga Ra Sa [.ref am, .int p1]) (mz_w D cy ad am (fun F G R S => mz_IF false F ∧ mz_IG G ∧ mz_IR [] true R ∧ (∀ k : Nat, k ∉ ([14, 15, 16, 18, 19, 23, 26, 29, 30] : List Nat) → F k = Fa k) ∧ (∀ k : Nat, k ∉ ([24, 25, 27, 28] : List Nat) → R k = Ra k) ∧ (∀ k : Nat, k ∉ ([17] : List Nat) → G k = Ga k) ∧ 0 ≤ (-1) * (F 14).toInt + (F 15).toInt ∧ 0 ≤ gp.toInt + (-1) * (F 15).toInt ∧ (1 ≤ (F 16).toInt → 0 ≤ (-1) * (F 14).toInt + (F 15).toInt + (-1)) ∧ (27 ≤ (G 17).toInt → 1 ≤ (F 16).toInt → (F 16).toInt ≤ 1 → 0 ≤ (-1) * (F 14).toInt + (F 15).toInt + (-2)) ∧ 0 ≤ (-1) * gf.toInt + (F 14).toInt ∧ 0 ≤ (-1) * (F 23).toInt + (F 14).toInt ∧ 0 ≤ (-1) * gc.toInt + (F 23).toInt ∧ ((F 19).toInt = 0 → WFC (R 24) (R 25) gc.toInt.toNat (F 23).toInt.toNat ∧ low gc.toInt.toNat (Ra 24) (R 24) ∧ low gc.toInt.toNat (Ra 25) (R 25)))) 0 0 (mz_W ad am) := by
  refine mz_met (y := yX13_readExpression) (cc := cX13_readExpression) (maxL := 3) (ret := none) (av := [.ref am, .int p1]) _ (by decide) (Nat.le_of_ble_eq_true rfl) ?_
  intro p e s m args below meth c hx hb hr hml hts htl hown hlocks hK H locs hM hS ls hl
  have hown : s.vm.findClass RX13 = some m.cls := hown
  have hl : lv_has ls 3 [(0, .ref am), (1, .int p1)] := hl
  have hr_p1 := tk_rng p1
  have hq_gf := tk_rng gf
  have hq_gt := tk_rng gt
  have hq_gs := tk_rng gs
  have hq_gp := tk_rng gp
  have hq_gw := tk_rngL gw
  have hq_gb := tk_rng gb
  have hq_gc := tk_rng gc
  have hr_gf : 0 ≤ gf.toInt ∧ gf.toInt ≤ 400 := hIF.at hg_0
  have hr_gt : 0 ≤ gt.toInt ∧ gt.toInt ≤ 400 := hIF.at hg_1
  have hr_gs : 0 ≤ gs.toInt ∧ gs.toInt ≤ 3 := hIF.at hg_2
  have hr_gp : 0 ≤ gp.toInt ∧ gp.toInt ≤ 400 := hIF.at hg_3
  have hr_gb : 0 ≤ gb.toInt ∧ gb.toInt ≤ 1 := hIF.at hg_5
  have hr_gc : 0 ≤ gc.toInt ∧ gc.toInt ≤ 400 := hIF.at hg_6
  refine lv_aload_n hx hb dX13_readExpression_0 rfl (lv_at hl 0 rfl) ?_
  refine lv_iconst (v := 0) hx hb dX13_readExpression_1 (by decide) ?_
  have hk_0 : (0 : Int32).toInt = 0 := by decide
  have hk_0 : (0 : Int32).toInt = 0 := by decide
  refine mz_putI (ty := .int) (x := 0) hx hb htl hown hK hD hM hS 29 (Nat.le_of_ble_eq_true rfl) rfl (htl _ mw_718) (fun _ h9 => h9) rfl (tyX13_ok 29 (by decide)) rfl rfl dX13_readExpression_2 (fun H locs F hM hS hf9 hj9 => ?_)
  have hIF := hIF.put hf9 hj9 (show 0 ≤ (0 : Int32).toInt by omega) (show (0 : Int32).toInt ≤ 400 by omega) (by decide)
  have hFF := mz_frp (K := [14, 15, 16, 18, 19, 23, 26, 29, 30]) (Fa := Fa) hj9 (fun _ _ => rfl) (by decide)
  have hg_0 := (hj9 14 (by decide)).trans hg_0
  have hg_1 := (hj9 15 (by decide)).trans hg_1
  have hg_2 := (hj9 16 (by decide)).trans hg_2
  have hg_3 := (hj9 13 (by decide)).trans hg_3
  have hg_5 := (hj9 19 (by decide)).trans hg_5
  have hg_6 := (hj9 23 (by decide)).trans hg_6
  have hf2 := hf9
  refine lv_aload_n hx hb dX13_readExpression_5 rfl (lv_at hl 0 rfl) ?_
  refine lv_iconst (v := 0) hx hb dX13_readExpression_6 (by decide) ?_
  have hk_0 : (0 : Int32).toInt = 0 := by decide
  refine mz_putI (ty := .int) (x := 0) hx hb htl hown hK hD hM hS 30 (Nat.le_of_ble_eq_true rfl) rfl (htl _ mw_719) (fun _ h9 => h9) rfl (tyX13_ok 30 (by decide)) rfl rfl dX13_readExpression_7 (fun H locs F hM hS hf9 hj9 => ?_)
  have hIF := hIF.put hf9 hj9 (tk_rng _).1 (tk_rng _).2 (by decide)
  have hFF := mz_frp (K := [14, 15, 16, 18, 19, 23, 26, 29, 30]) (Fa := Fa) hj9 hFF (by decide)
  have hg_0 := (hj9 14 (by decide)).trans hg_0
  have hg_1 := (hj9 15 (by decide)).trans hg_1
  have hg_2 := (hj9 16 (by decide)).trans hg_2
  have hg_3 := (hj9 13 (by decide)).trans hg_3
  have hg_5 := (hj9 19 (by decide)).trans hg_5
  have hg_6 := (hj9 23 (by decide)).trans hg_6
  have hf2 := (hj9 29 (by decide)).trans hf2
  have hf4 := hf9
  obtain ⟨zs, hzs⟩ : ∃ z : Nat, z = gc.toInt.toNat := ⟨_, rfl⟩
  have hPI0 : PI (Ra 24) (Ra 25) (Ra 27) (Ra 28) zs (F 23).toInt.toNat (F 29).toInt.toNat 0 := by rw [hg_6, hf2, ← hzs]; exact PI.start _ _ _ _ _
  refine lv_iload_n hx hb dX13_readExpression_10 rfl (lv_at hl 1 rfl) ?_
  refine lv_if_eq (tgt := 18) hx hb dX13_readExpression_11 (by decide) (fun c9 => ?_) (fun c9 => ?_)
  · have hc5 : p1.toInt = 0 := (fi_eq rfl (show (0 : Int32).toInt = 0 by decide)).mp c9
    refine lv_iconst (v := 1) hx hb dX13_readExpression_18 (by decide) ?_
    refine lv_istore_n (lv' := [(2, .int 1), (0, .ref am), (1, .int p1)]) hx hb dX13_readExpression_19 rfl hl (by decide) rfl (fun ls hl => ?_)
    have hl1082 : ∀ (N_l1082 : Nat) (v258 : Int32) (v259 : Int32) (v260 : Int32) (v261 : Int32) (v262 : Int64) (v263 : Int32) (v264 : Int32) (v265 : Int32) (H : Heap) (locs : List Loc) (F : Nat → Int32) (G : Nat → Int64) (R : Nat → Nat → Int32) (S : Nat → Nat → Int64), (v261.toInt ≤ 3) → (0 ≤ gb.toInt + (-1) * v263.toInt + 1) → (0 ≤ (-1) * p1.toInt + v261.toInt) → (0 ≤ (-1) * p1.toInt + v263.toInt) → (0 ≤ (-1) * p1.toInt + v265.toInt) → (0 ≤ v259.toInt + (-1) * v264.toInt + (-1) * v265.toInt) → (0 ≤ (-1) * gc.toInt + v264.toInt) → (0 ≤ (-1) * gf.toInt + v259.toInt) → (0 ≤ (-1) * v259.toInt + v260.toInt) → (0 ≤ gp.toInt + (-1) * v260.toInt) → (0 ≤ v258.toInt) → (v258.toInt ≤ 4) → (mz_S D cy ad am F G R S H) → (va_S (mz_W ad am) s.heap H locs) → (mz_IF false F) → (mz_IG G) → (mz_IR [] true R) → (∀ k : Nat, k ∉ ([14, 15, 16, 18, 19, 23, 26, 29, 30] : List Nat) → F k = Fa k) → (∀ k : Nat, k ∉ ([17] : List Nat) → G k = Ga k) → (∀ k : Nat, k ∉ ([24, 25, 27, 28] : List Nat) → R k = Ra k) → (F 14 = v259) → (F 15 = v260) → (F 16 = v261) → (F 13 = gp) → (G 17 = v262) → (F 19 = v263) → (F 23 = v264) → (F 29 = v265) → ((1 ≤ v261.toInt → 0 ≤ (-1) * v259.toInt + v260.toInt + (-1))) → ((27 ≤ v262.toInt → 1 ≤ v261.toInt → v261.toInt ≤ 1 → 0 ≤ (-1) * v259.toInt + v260.toInt + (-2))) → ((F 19).toInt = 0 → PT (R 24) (R 25) (R 27) (R 28) zs (F 23).toInt.toNat (F 29).toInt.toNat v258.toInt ∧ low zs (Ra 24) (R 24) ∧ low zs (Ra 25) (R 25)) → (mz_me v263.toInt v258.toInt v259.toInt < (N_l1082 : Int)) → ∀ ls : Array Slot, lv_has ls 3 [(2, .int v258), (0, .ref am), (1, .int p1)] → W p l e ({ frames := 9, cells := 0, slots := 0, locals := 560 }) s m args below meth c H locs 0 0 (MQ below (mz_w D cy ad am (fun F G R S => mz_IF false F ∧ mz_IG G ∧ mz_IR [] true R ∧ (∀ k : Nat, k ∉ ([14, 15, 16, 18, 19, 23, 26, 29, 30] : List Nat) → F k = Fa k) ∧ (∀ k : Nat, k ∉ ([24, 25, 27, 28] : List Nat) → R k = Ra k) ∧ (∀ k : Nat, k ∉ ([17] : List Nat) → G k = Ga k) ∧ 0 ≤ (-1) * (F 14).toInt + (F 15).toInt ∧ 0 ≤ gp.toInt + (-1) * (F 15).toInt ∧ (1 ≤ (F 16).toInt → 0 ≤ (-1) * (F 14).toInt + (F 15).toInt + (-1)) ∧ (27 ≤ (G 17).toInt → 1 ≤ (F 16).toInt → (F 16).toInt ≤ 1 → 0 ≤ (-1) * (F 14).toInt + (F 15).toInt + (-2)) ∧ 0 ≤ (-1) * gf.toInt + (F 14).toInt ∧ 0 ≤ (-1) * (F 23).toInt + (F 14).toInt ∧ 0 ≤ (-1) * gc.toInt + (F 23).toInt ∧ ((F 19).toInt = 0 → WFC (R 24) (R 25) gc.toInt.toNat (F 23).toInt.toNat ∧ low gc.toInt.toNat (Ra 24) (R 24) ∧ low gc.toInt.toNat (Ra 25) (R 25)))) args s 0 0 (mz_W ad am)) (F0 m 20 ls []) := by
      intro N_l1082
      induction N_l1082 with
      | zero => intro v258 v259 v260 v261 v262 v263 v264 v265 H locs F G R S hq0_l1082 hq1_l1082 hq2_l1082 hq3_l1082 hq4_l1082 hq5_l1082 hq6_l1082 hq7_l1082 hq8_l1082 hq9_l1082 hq10_l1082 hq11_l1082 hM hS hIF hIG hIR hFF hGG hRR hg_0 hg_1 hg_2 hg_3 hg_4 hg_5 hg_6 hf2 hc0_l1082 hc1_l1082 hPT hm_l1082 ls hl; exfalso; have h9 := mz_me.nn (b := v263.toInt) (t := v258.toInt) (f := v259.toInt) (by omega) (by omega); omega
      | succ N_l1082 ih_l1082 =>
        intro v258 v259 v260 v261 v262 v263 v264 v265 H locs F G R S hq0_l1082 hq1_l1082 hq2_l1082 hq3_l1082 hq4_l1082 hq5_l1082 hq6_l1082 hq7_l1082 hq8_l1082 hq9_l1082 hq10_l1082 hq11_l1082 hM hS hIF hIG hIR hFF hGG hRR hg_0 hg_1 hg_2 hg_3 hg_4 hg_5 hg_6 hf2 hc0_l1082 hc1_l1082 hPT hm_l1082 ls hl
        refine lv_aload_n hx hb dX13_readExpression_20 rfl (lv_at hl 1 rfl) ?_
        refine mz_getI hx hb htl hown hK hM 19 (Nat.le_of_ble_eq_true rfl) rfl (htl _ mw_668) (fun _ h9 => h9) dX13_readExpression_21 (fun v9 e9 => ?_)
        refine fx_ti (v := v263) (e9.symm.trans hg_5) ?_
        refine lv_if_ne (tgt := 76) hx hb dX13_readExpression_24 (by decide) (fun c9 => ?_) (fun c9 => ?_)
        · have hc1083 : ¬ (v263.toInt = 0) := fun h9 => c9 ((fi_eq rfl (show (0 : Int32).toInt = 0 by decide)).mpr h9)
          refine lv_aload_n hx hb dX13_readExpression_76 rfl (lv_at hl 1 rfl) ?_
          refine lv_iconst (v := 1) hx hb dX13_readExpression_77 (by decide) ?_
          have hk_1 : (1 : Int32).toInt = 1 := by decide
          refine mz_Vv (As := [.int 1]) (rest := []) ⟨hx, hb, hml, hown, hts⟩ hK hM hS (k_X13_settle l D cy ld ad am hD _ _ _ _ 1 v264 v265 v263 zs hIF hIG hIR hg_6 hf2 hg_5 (by omega) (by omega) (by omega) (fun h9 => absurd h9 (by omega))) ⟨callB_of 1 hts (wl_in mw_773) rfl rfl rfl (htl _ mw_5) (htl _ mw_770) hd_yX13_settle ⟨(Nat.le_of_ble_eq_true rfl), (Nat.le_of_ble_eq_true rfl)⟩, htl _ mw_771, htl _ mw_772⟩ rfl hl.1 rfl (Nat.le_of_ble_eq_true rfl) dX13_readExpression_78 ⟨(Nat.le_of_ble_eq_true rfl), (Nat.le_of_ble_eq_true rfl)⟩ (fun H locs F G R S hpo hM hS => ?_)
          obtain ⟨hIF, hIG, hIR, hfr9, hrr9, hgr9, hpo1084, hpo1085, hpo1086, hx1087, hx1088, hx1089⟩ := hpo
          have hFF := mz_fr (K := [14, 15, 16, 18, 19, 23, 26, 29, 30]) (Fa := Fa) hfr9 hFF (by decide)
          have hRR := mz_fr (K := [24, 25, 27, 28]) (Fa := Ra) hrr9 hRR (by decide)
          have hGG := mz_fr (K := [17]) (Fa := Ga) hgr9 hGG (by decide)
          have hg_0 := (hfr9 14 (by decide)).trans hg_0
          have hg_1 := (hfr9 15 (by decide)).trans hg_1
          have hg_2 := (hfr9 16 (by decide)).trans hg_2
          have hg_3 := (hfr9 13 (by decide)).trans hg_3
          have hg_4 := (hgr9 17 (by decide)).trans hg_4
          have hg_5 := (hfr9 19 (by decide)).trans hg_5
          obtain ⟨v1092, hf1091⟩ : ∃ z : Int32, F 23 = z := ⟨_, rfl⟩
          have hq_v1092 := tk_rng v1092
          rw [hf1091] at hpo1084 hpo1086
          have hr_v1092 : 0 ≤ v1092.toInt ∧ v1092.toInt ≤ 400 := hIF.at hf1091
          obtain ⟨v1094, hf1093⟩ : ∃ z : Int32, F 29 = z := ⟨_, rfl⟩
          have hq_v1094 := tk_rng v1094
          rw [hf1093] at hpo1084 hpo1085
          have hr_v1094 : 0 ≤ v1094.toInt ∧ v1094.toInt ≤ 400 := hIF.at hf1093
          exact mz_vret hx hb hr hlocks ⟨hIF, hIG, hIR, hFF, hRR, hGG, (by rw [hg_0, hg_1]; omega), (by rw [hg_1]; omega), (by rw [hg_0, hg_1, hg_2]; omega), (by rw [hg_0, hg_1, hg_2, hg_4]; omega), (by rw [hg_0]; omega), (by rw [hg_0, hf1091]; omega), (by rw [hf1091]; omega), (by rw [hg_5]; exact fun h9 => absurd h9 (by omega))⟩ hM hS dX13_readExpression_81
        · have hc1083 : v263.toInt = 0 := (fi_eq rfl (show (0 : Int32).toInt = 0 by decide)).mp c9
          refine lv_iload_n hx hb dX13_readExpression_27 rfl (lv_at hl 0 rfl) ?_
          refine lv_iconst (v := 4) hx hb dX13_readExpression_28 (by decide) ?_
          refine lv_icmp_eq (tgt := 76) hx hb dX13_readExpression_29 (by decide) (fun c9 => ?_) (fun c9 => ?_)
          · have hc1095 : v258.toInt = 4 := (fi_eq rfl (show (4 : Int32).toInt = 4 by decide)).mp c9
            refine lv_aload_n hx hb dX13_readExpression_76 rfl (lv_at hl 1 rfl) ?_
            refine lv_iconst (v := 1) hx hb dX13_readExpression_77 (by decide) ?_
            have hPT := hPT (by rw [hg_5]; omega)
            have hPTT := hPT.1.2.2 (by omega)
            have hL7 := hPT.2
            have hPT : (F 19).toInt = 0 → _ := fun _ => hPT
            rw [hf2] at hPTT
            have hk_1 : (1 : Int32).toInt = 1 := by decide
            refine mz_Vv (As := [.int 1]) (rest := []) ⟨hx, hb, hml, hown, hts⟩ hK hM hS (k_X13_settle l D cy ld ad am hD _ _ _ _ 1 v264 v265 v263 zs hIF hIG hIR hg_6 hf2 hg_5 (by omega) (by omega) (by omega) (fun h9 => by have h8 := (hPT (by rw [hg_5]; omega)).1.p (c := 1) (by rw [show v258.toInt = 4 by omega]; decide); rw [hg_6, hf2] at h8; exact h8)) ⟨callB_of 1 hts (wl_in mw_773) rfl rfl rfl (htl _ mw_5) (htl _ mw_770) hd_yX13_settle ⟨(Nat.le_of_ble_eq_true rfl), (Nat.le_of_ble_eq_true rfl)⟩, htl _ mw_771, htl _ mw_772⟩ rfl hl.1 rfl (Nat.le_of_ble_eq_true rfl) dX13_readExpression_78 ⟨(Nat.le_of_ble_eq_true rfl), (Nat.le_of_ble_eq_true rfl)⟩ (fun H locs F G R S hpo hM hS => ?_)
            obtain ⟨hIF, hIG, hIR, hfr9, hrr9, hgr9, hpo1096, hpo1097, hpo1098, hx1099, hx1100, hx1101⟩ := hpo
            have hFF := mz_fr (K := [14, 15, 16, 18, 19, 23, 26, 29, 30]) (Fa := Fa) hfr9 hFF (by decide)
            have hRR := mz_fr (K := [24, 25, 27, 28]) (Fa := Ra) hrr9 hRR (by decide)
            have hGG := mz_fr (K := [17]) (Fa := Ga) hgr9 hGG (by decide)
            have hg_0 := (hfr9 14 (by decide)).trans hg_0
            have hg_1 := (hfr9 15 (by decide)).trans hg_1
            have hg_2 := (hfr9 16 (by decide)).trans hg_2
            have hg_3 := (hfr9 13 (by decide)).trans hg_3
            have hg_4 := (hgr9 17 (by decide)).trans hg_4
            have hg_5 := (hfr9 19 (by decide)).trans hg_5
            obtain ⟨v1104, hf1103⟩ : ∃ z : Int32, F 23 = z := ⟨_, rfl⟩
            have hq_v1104 := tk_rng v1104
            rw [hf1103] at hpo1096 hpo1098
            have hr_v1104 : 0 ≤ v1104.toInt ∧ v1104.toInt ≤ 400 := hIF.at hf1103
            obtain ⟨v1106, hf1105⟩ : ∃ z : Int32, F 29 = z := ⟨_, rfl⟩
            have hq_v1106 := tk_rng v1106
            rw [hf1105] at hpo1096 hpo1097
            have hr_v1106 : 0 ≤ v1106.toInt ∧ v1106.toInt ≤ 400 := hIF.at hf1105
            have hs9 := hx1099 (by omega)
            rw [hf1103, hf1105] at hs9
            rw [hf1105] at hx1101
            have hd0 : v1106.toInt.toNat = 0 := by
              by_cases h9 : 1 ≤ v1106.toInt
              · have h8 := (hx1101 h9).1 (by decide)
                have h7 := hPTT (v1106.toInt - 1).toNat (by omega)
                omega
              · omega
            have hL8 := hL7
            exact mz_vret hx hb hr hlocks ⟨hIF, hIG, hIR, hFF, hRR, hGG, (by rw [hg_0, hg_1]; omega), (by rw [hg_1]; omega), (by rw [hg_0, hg_1, hg_2]; omega), (by rw [hg_0, hg_1, hg_2, hg_4]; omega), (by rw [hg_0]; omega), (by rw [hg_0, hf1103]; omega), (by rw [hf1103]; omega), (fun _ => ⟨by rw [hf1103, ← hzs]; exact PT.over hs9.1 hd0, by rw [← hzs]; exact hL8.1.trans hs9.2.1 (Nat.le_refl _), by rw [← hzs]; exact hL8.2.trans hs9.2.2 (Nat.le_refl _)⟩)⟩ hM hS dX13_readExpression_81
          · have hc1095 : ¬ (v258.toInt = 4) := fun h9 => c9 ((fi_eq rfl (show (4 : Int32).toInt = 4 by decide)).mpr h9)
            refine lv_iload_n hx hb dX13_readExpression_32 rfl (lv_at hl 0 rfl) ?_
            refine lv_if_ne (tgt := 43) hx hb dX13_readExpression_33 (by decide) (fun c9 => ?_) (fun c9 => ?_)
            · have hc1107 : ¬ (v258.toInt = 0) := fun h9 => c9 ((fi_eq rfl (show (0 : Int32).toInt = 0 by decide)).mpr h9)
              refine lv_iload_n hx hb dX13_readExpression_43 rfl (lv_at hl 0 rfl) ?_
              refine lv_iconst (v := 1) hx hb dX13_readExpression_44 (by decide) ?_
              refine lv_icmp_ne (tgt := 55) hx hb dX13_readExpression_45 (by decide) (fun c9 => ?_) (fun c9 => ?_)
              · have hc1108 : ¬ (v258.toInt = 1) := fun h9 => c9 ((fi_eq rfl (show (1 : Int32).toInt = 1 by decide)).mpr h9)
                refine lv_iload_n hx hb dX13_readExpression_55 rfl (lv_at hl 0 rfl) ?_
                refine lv_iconst (v := 3) hx hb dX13_readExpression_56 (by decide) ?_
                refine lv_icmp_ne (tgt := 68) hx hb dX13_readExpression_57 (by decide) (fun c9 => ?_) (fun c9 => ?_)
                · have hc1109 : ¬ (v258.toInt = 3) := fun h9 => c9 ((fi_eq rfl (show (3 : Int32).toInt = 3 by decide)).mpr h9)
                  refine lv_aload_n hx hb dX13_readExpression_68 rfl (lv_at hl 1 rfl) ?_
                  have hL9 := (hPT (by rw [hg_5]; omega)).2
                  refine mz_Vi (As := []) (rest := []) ⟨hx, hb, hml, hown, hts⟩ hK hM hS (k_X13_behindTest l D cy ld ad am hD _ _ _ _ v259 v260 v261 gp v262 v263 v264 v265 zs hIF hIG hIR hg_0 hg_1 hg_2 hg_3 hg_4 hg_5 hg_6 hf2 (by omega) (by omega) (by omega) (by omega) (by omega) (by omega) (by have h9 := (hPT (by rw [hg_5]; omega)).1; rw [hg_6, hf2, show v258.toInt = 2 by omega] at h9; exact h9)) ⟨callB_of 0 hts (wl_in mw_789) rfl rfl rfl (htl _ mw_5) (htl _ mw_786) hd_yX13_behindTest ⟨(Nat.le_of_ble_eq_true rfl), (Nat.le_of_ble_eq_true rfl)⟩, htl _ mw_787, htl _ mw_788⟩ rfl hl.1 rfl (Nat.le_of_ble_eq_true rfl) dX13_readExpression_69 ⟨(Nat.le_of_ble_eq_true rfl), (Nat.le_of_ble_eq_true rfl)⟩ (fun v1110 H locs F G R S hpo hM hS => ?_)
                  obtain ⟨hIF, hIG, hIR, hfr9, hrr9, hgr9, hpo1111, hpo1112, hpo1113, hpo1114, hpo1115, hpo1116, hpo1117, hpo1118, hpo1119, hpo1120, hx1121⟩ := hpo
                  have hq_v1110 := tk_rng v1110
                  have hFF := mz_fr (K := [14, 15, 16, 18, 19, 23, 26, 29, 30]) (Fa := Fa) hfr9 hFF (by decide)
                  have hRR := mz_fr (K := [24, 25, 27, 28]) (Fa := Ra) hrr9 hRR (by decide)
                  have hGG := mz_fr (K := [17]) (Fa := Ga) hgr9 hGG (by decide)
                  have hg_3 := (hfr9 13 (by decide)).trans hg_3
                  obtain ⟨v1124, hf1123⟩ : ∃ z : Int32, F 14 = z := ⟨_, rfl⟩
                  have hq_v1124 := tk_rng v1124
                  rw [hf1123] at hpo1111 hpo1113 hpo1114 hpo1115 hpo1116 hpo1118
                  have hr_v1124 : 0 ≤ v1124.toInt ∧ v1124.toInt ≤ 400 := hIF.at hf1123
                  obtain ⟨v1126, hf1125⟩ : ∃ z : Int32, F 15 = z := ⟨_, rfl⟩
                  have hq_v1126 := tk_rng v1126
                  rw [hf1125] at hpo1111 hpo1112 hpo1113 hpo1114
                  have hr_v1126 : 0 ≤ v1126.toInt ∧ v1126.toInt ≤ 400 := hIF.at hf1125
                  obtain ⟨v1128, hf1127⟩ : ∃ z : Int32, F 16 = z := ⟨_, rfl⟩
                  have hq_v1128 := tk_rng v1128
                  rw [hf1127] at hpo1113 hpo1114
                  have hr_v1128 : 0 ≤ v1128.toInt ∧ v1128.toInt ≤ 3 := hIF.at hf1127
                  obtain ⟨w1130, hf1129⟩ : ∃ z : Int64, G 17 = z := ⟨_, rfl⟩
                  have hq_w1130 := tk_rngL w1130
                  rw [hf1129] at hpo1114
                  obtain ⟨v1132, hf1131⟩ : ∃ z : Int32, F 19 = z := ⟨_, rfl⟩
                  have hq_v1132 := tk_rng v1132
                  rw [hf1131] at hpo1118
                  have hr_v1132 : 0 ≤ v1132.toInt ∧ v1132.toInt ≤ 1 := hIF.at hf1131
                  obtain ⟨v1134, hf1133⟩ : ∃ z : Int32, F 23 = z := ⟨_, rfl⟩
                  have hq_v1134 := tk_rng v1134
                  rw [hf1133] at hpo1116 hpo1117
                  have hr_v1134 : 0 ≤ v1134.toInt ∧ v1134.toInt ≤ 400 := hIF.at hf1133
                  obtain ⟨v1136, hf1135⟩ : ∃ z : Int32, F 29 = z := ⟨_, rfl⟩
                  have hq_v1136 := tk_rng v1136
                  rw [hf1135] at hpo1116
                  have hr_v1136 : 0 ≤ v1136.toInt ∧ v1136.toInt ≤ 400 := hIF.at hf1135
                  have hPT : (F 19).toInt = 0 → PT (R 24) (R 25) (R 27) (R 28) zs (F 23).toInt.toNat (F 29).toInt.toNat v1110.toInt ∧ low zs (Ra 24) (R 24) ∧ low zs (Ra 25) (R 25) := fun h9 => ⟨(hx1121 h9).1, hL9.1.trans (hx1121 h9).2.1 (Nat.le_refl _), hL9.2.trans (hx1121 h9).2.2 (Nat.le_refl _)⟩
                  refine lv_istore_n (lv' := [(2, .int v1110), (0, .ref am), (1, .int p1)]) hx hb dX13_readExpression_72 rfl hl (by decide) rfl (fun ls hl => ?_)
                  refine lv_goto (tgt := 20) hx hb dX13_readExpression_73 (by decide) ?_
                  exact ih_l1082 v1110 v1124 v1126 v1128 w1130 v1132 v1134 v1136 _ _ _ _ _ _ (by omega) (by omega) (by omega) (by omega) (by omega) (by omega) (by omega) (by omega) (by omega) (by omega) (by omega) (by omega) hM hS hIF hIG hIR hFF hGG hRR hf1123 hf1125 hf1127 hg_3 hf1129 hf1131 hf1133 hf1135 (by omega) (by omega) hPT (mz_me.lt hm_l1082 (by omega) (by omega) (by omega) (by omega) (by omega)) _ (lv_sub hl [0, 1, 2] rfl)
                · have hc1109 : v258.toInt = 3 := (fi_eq rfl (show (3 : Int32).toInt = 3 by decide)).mp c9
                  refine lv_aload_n hx hb dX13_readExpression_60 rfl (lv_at hl 1 rfl) ?_
                  refine lv_iload_n hx hb dX13_readExpression_61 rfl (lv_at hl 2 rfl) ?_
                  have hL9 := (hPT (by rw [hg_5]; omega)).2
                  refine mz_Vi (As := [.int p1]) (rest := []) ⟨hx, hb, hml, hown, hts⟩ hK hM hS (k_X13_behindSum l D cy ld ad am hD _ _ _ _ p1 v259 v260 v261 gp v262 v263 v264 v265 zs hIF hIG hIR hg_0 hg_1 hg_2 hg_3 hg_4 hg_5 hg_6 hf2 (by omega) (by omega) (by omega) (by omega) (by omega) (by omega) (by omega) (by omega) (by have h9 := (hPT (by rw [hg_5]; omega)).1; rw [hg_6, hf2, show v258.toInt = 3 by omega] at h9; exact h9)) ⟨callB_of 1 hts (wl_in mw_766) rfl rfl rfl (htl _ mw_5) (htl _ mw_763) hd_yX13_behindSum ⟨(Nat.le_of_ble_eq_true rfl), (Nat.le_of_ble_eq_true rfl)⟩, htl _ mw_764, htl _ mw_765⟩ rfl hl.1 rfl (Nat.le_of_ble_eq_true rfl) dX13_readExpression_62 ⟨(Nat.le_of_ble_eq_true rfl), (Nat.le_of_ble_eq_true rfl)⟩ (fun v1137 H locs F G R S hpo hM hS => ?_)
                  obtain ⟨hIF, hIG, hIR, hfr9, hrr9, hgr9, hpo1138, hpo1139, hpo1140, hpo1141, hpo1142, hpo1143, hpo1144, hpo1145, hpo1146, hpo1147, hpo1148, hx1149⟩ := hpo
                  have hq_v1137 := tk_rng v1137
                  have hFF := mz_fr (K := [14, 15, 16, 18, 19, 23, 26, 29, 30]) (Fa := Fa) hfr9 hFF (by decide)
                  have hRR := mz_fr (K := [24, 25, 27, 28]) (Fa := Ra) hrr9 hRR (by decide)
                  have hGG := mz_fr (K := [17]) (Fa := Ga) hgr9 hGG (by decide)
                  have hg_3 := (hfr9 13 (by decide)).trans hg_3
                  obtain ⟨v1152, hf1151⟩ : ∃ z : Int32, F 14 = z := ⟨_, rfl⟩
                  have hq_v1152 := tk_rng v1152
                  rw [hf1151] at hpo1138 hpo1140 hpo1141 hpo1142 hpo1143 hpo1145 hpo1146
                  have hr_v1152 : 0 ≤ v1152.toInt ∧ v1152.toInt ≤ 400 := hIF.at hf1151
                  obtain ⟨v1154, hf1153⟩ : ∃ z : Int32, F 15 = z := ⟨_, rfl⟩
                  have hq_v1154 := tk_rng v1154
                  rw [hf1153] at hpo1138 hpo1139 hpo1140 hpo1141
                  have hr_v1154 : 0 ≤ v1154.toInt ∧ v1154.toInt ≤ 400 := hIF.at hf1153
                  obtain ⟨v1156, hf1155⟩ : ∃ z : Int32, F 16 = z := ⟨_, rfl⟩
                  have hq_v1156 := tk_rng v1156
                  rw [hf1155] at hpo1140 hpo1141
                  have hr_v1156 : 0 ≤ v1156.toInt ∧ v1156.toInt ≤ 3 := hIF.at hf1155
                  obtain ⟨w1158, hf1157⟩ : ∃ z : Int64, G 17 = z := ⟨_, rfl⟩
                  have hq_w1158 := tk_rngL w1158
                  rw [hf1157] at hpo1141
                  obtain ⟨v1160, hf1159⟩ : ∃ z : Int32, F 19 = z := ⟨_, rfl⟩
                  have hq_v1160 := tk_rng v1160
                  rw [hf1159] at hpo1145 hpo1146
                  have hr_v1160 : 0 ≤ v1160.toInt ∧ v1160.toInt ≤ 1 := hIF.at hf1159
                  obtain ⟨v1162, hf1161⟩ : ∃ z : Int32, F 23 = z := ⟨_, rfl⟩
                  have hq_v1162 := tk_rng v1162
                  rw [hf1161] at hpo1143 hpo1144
                  have hr_v1162 : 0 ≤ v1162.toInt ∧ v1162.toInt ≤ 400 := hIF.at hf1161
                  obtain ⟨v1164, hf1163⟩ : ∃ z : Int32, F 29 = z := ⟨_, rfl⟩
                  have hq_v1164 := tk_rng v1164
                  rw [hf1163] at hpo1143
                  have hr_v1164 : 0 ≤ v1164.toInt ∧ v1164.toInt ≤ 400 := hIF.at hf1163
                  have hPT : (F 19).toInt = 0 → PT (R 24) (R 25) (R 27) (R 28) zs (F 23).toInt.toNat (F 29).toInt.toNat v1137.toInt ∧ low zs (Ra 24) (R 24) ∧ low zs (Ra 25) (R 25) := fun h9 => ⟨(hx1149 h9).1, hL9.1.trans (hx1149 h9).2.1 (Nat.le_refl _), hL9.2.trans (hx1149 h9).2.2 (Nat.le_refl _)⟩
                  refine lv_goto (tgt := 72) hx hb dX13_readExpression_65 (by decide) ?_
                  refine lv_istore_n (lv' := [(2, .int v1137), (0, .ref am), (1, .int p1)]) hx hb dX13_readExpression_72 rfl hl (by decide) rfl (fun ls hl => ?_)
                  refine lv_goto (tgt := 20) hx hb dX13_readExpression_73 (by decide) ?_
                  exact ih_l1082 v1137 v1152 v1154 v1156 w1158 v1160 v1162 v1164 _ _ _ _ _ _ (by omega) (by omega) (by omega) (by omega) (by omega) (by omega) (by omega) (by omega) (by omega) (by omega) (by omega) (by omega) hM hS hIF hIG hIR hFF hGG hRR hf1151 hf1153 hf1155 hg_3 hf1157 hf1159 hf1161 hf1163 (by omega) (by omega) hPT (mz_me.lt hm_l1082 (by omega) (by omega) (by omega) (by omega) (by omega)) _ (lv_sub hl [0, 1, 2] rfl)
              · have hc1108 : v258.toInt = 1 := (fi_eq rfl (show (1 : Int32).toInt = 1 by decide)).mp c9
                refine lv_aload_n hx hb dX13_readExpression_48 rfl (lv_at hl 1 rfl) ?_
                have hL9 := (hPT (by rw [hg_5]; omega)).2
                refine mz_Vi (As := []) (rest := []) ⟨hx, hb, hml, hown, hts⟩ hK hM hS (k_X13_readPart l D cy ld ad am hD _ _ _ _ v259 v260 v261 gp v262 v263 v264 v265 zs hIF hIG hIR hg_0 hg_1 hg_2 hg_3 hg_4 hg_5 hg_6 hf2 (by omega) (by omega) (by omega) (by omega) (by omega) (by omega) (by have h9 := (hPT (by rw [hg_5]; omega)).1.p (c := 0) (by rw [show v258.toInt = 1 by omega]; decide); rw [hg_6, hf2] at h9; exact h9)) ⟨callB_of 0 hts (wl_in mw_740) rfl rfl rfl (htl _ mw_5) (htl _ mw_737) hd_yX13_readPart ⟨(Nat.le_of_ble_eq_true rfl), (Nat.le_of_ble_eq_true rfl)⟩, htl _ mw_738, htl _ mw_739⟩ rfl hl.1 rfl (Nat.le_of_ble_eq_true rfl) dX13_readExpression_49 ⟨(Nat.le_of_ble_eq_true rfl), (Nat.le_of_ble_eq_true rfl)⟩ (fun v1165 H locs F G R S hpo hM hS => ?_)
                obtain ⟨hIF, hIG, hIR, hfr9, hrr9, hgr9, hpo1166, hpo1167, hpo1168, hpo1169, hpo1170, hpo1171, hpo1172, hpo1173, hpo1174, hpo1175, hx1176⟩ := hpo
                have hq_v1165 := tk_rng v1165
                have hFF := mz_fr (K := [14, 15, 16, 18, 19, 23, 26, 29, 30]) (Fa := Fa) hfr9 hFF (by decide)
                have hRR := mz_fr (K := [24, 25, 27, 28]) (Fa := Ra) hrr9 hRR (by decide)
                have hGG := mz_fr (K := [17]) (Fa := Ga) hgr9 hGG (by decide)
                have hg_3 := (hfr9 13 (by decide)).trans hg_3
                obtain ⟨v1179, hf1178⟩ : ∃ z : Int32, F 14 = z := ⟨_, rfl⟩
                have hq_v1179 := tk_rng v1179
                rw [hf1178] at hpo1166 hpo1168 hpo1169 hpo1170 hpo1171 hpo1173
                have hr_v1179 : 0 ≤ v1179.toInt ∧ v1179.toInt ≤ 400 := hIF.at hf1178
                obtain ⟨v1181, hf1180⟩ : ∃ z : Int32, F 15 = z := ⟨_, rfl⟩
                have hq_v1181 := tk_rng v1181
                rw [hf1180] at hpo1166 hpo1167 hpo1168 hpo1169
                have hr_v1181 : 0 ≤ v1181.toInt ∧ v1181.toInt ≤ 400 := hIF.at hf1180
                obtain ⟨v1183, hf1182⟩ : ∃ z : Int32, F 16 = z := ⟨_, rfl⟩
                have hq_v1183 := tk_rng v1183
                rw [hf1182] at hpo1168 hpo1169
                have hr_v1183 : 0 ≤ v1183.toInt ∧ v1183.toInt ≤ 3 := hIF.at hf1182
                obtain ⟨w1185, hf1184⟩ : ∃ z : Int64, G 17 = z := ⟨_, rfl⟩
                have hq_w1185 := tk_rngL w1185
                rw [hf1184] at hpo1169
                obtain ⟨v1187, hf1186⟩ : ∃ z : Int32, F 19 = z := ⟨_, rfl⟩
                have hq_v1187 := tk_rng v1187
                rw [hf1186] at hpo1173
                have hr_v1187 : 0 ≤ v1187.toInt ∧ v1187.toInt ≤ 1 := hIF.at hf1186
                obtain ⟨v1189, hf1188⟩ : ∃ z : Int32, F 23 = z := ⟨_, rfl⟩
                have hq_v1189 := tk_rng v1189
                rw [hf1188] at hpo1171 hpo1172
                have hr_v1189 : 0 ≤ v1189.toInt ∧ v1189.toInt ≤ 400 := hIF.at hf1188
                obtain ⟨v1191, hf1190⟩ : ∃ z : Int32, F 29 = z := ⟨_, rfl⟩
                have hq_v1191 := tk_rng v1191
                rw [hf1190] at hpo1171
                have hr_v1191 : 0 ≤ v1191.toInt ∧ v1191.toInt ≤ 400 := hIF.at hf1190
                have hPT : (F 19).toInt = 0 → PT (R 24) (R 25) (R 27) (R 28) zs (F 23).toInt.toNat (F 29).toInt.toNat v1165.toInt ∧ low zs (Ra 24) (R 24) ∧ low zs (Ra 25) (R 25) := fun h9 => ⟨(hx1176 h9).1, hL9.1.trans (hx1176 h9).2.1 (Nat.le_refl _), hL9.2.trans (hx1176 h9).2.2 (Nat.le_refl _)⟩
                refine lv_goto (tgt := 72) hx hb dX13_readExpression_52 (by decide) ?_
                refine lv_istore_n (lv' := [(2, .int v1165), (0, .ref am), (1, .int p1)]) hx hb dX13_readExpression_72 rfl hl (by decide) rfl (fun ls hl => ?_)
                refine lv_goto (tgt := 20) hx hb dX13_readExpression_73 (by decide) ?_
                exact ih_l1082 v1165 v1179 v1181 v1183 w1185 v1187 v1189 v1191 _ _ _ _ _ _ (by omega) (by omega) (by omega) (by omega) (by omega) (by omega) (by omega) (by omega) (by omega) (by omega) (by omega) (by omega) hM hS hIF hIG hIR hFF hGG hRR hf1178 hf1180 hf1182 hg_3 hf1184 hf1186 hf1188 hf1190 (by omega) (by omega) hPT (mz_me.lt hm_l1082 (by omega) (by omega) (by omega) (by omega) (by omega)) _ (lv_sub hl [0, 1, 2] rfl)
            · have hc1107 : v258.toInt = 0 := (fi_eq rfl (show (0 : Int32).toInt = 0 by decide)).mp c9
              refine lv_aload_n hx hb dX13_readExpression_36 rfl (lv_at hl 1 rfl) ?_
              have hL9 := (hPT (by rw [hg_5]; omega)).2
              refine mz_Vi (As := []) (rest := []) ⟨hx, hb, hml, hown, hts⟩ hK hM hS (k_X13_readPlain l D cy ld ad am hD _ _ _ _ v259 v260 v261 gp v262 v263 v264 v265 zs hIF hIG hIR hg_0 hg_1 hg_2 hg_3 hg_4 hg_5 hg_6 hf2 (by omega) (by omega) (by omega) (by omega) (by omega) (by omega) (by have h9 := (hPT (by rw [hg_5]; omega)).1; rw [hg_6, hf2, show v258.toInt = 0 by omega] at h9; exact h9)) ⟨callB_of 0 hts (wl_in mw_723) rfl rfl rfl (htl _ mw_5) (htl _ mw_720) hd_yX13_readPlain ⟨(Nat.le_of_ble_eq_true rfl), (Nat.le_of_ble_eq_true rfl)⟩, htl _ mw_721, htl _ mw_722⟩ rfl hl.1 rfl (Nat.le_of_ble_eq_true rfl) dX13_readExpression_37 ⟨(Nat.le_of_ble_eq_true rfl), (Nat.le_of_ble_eq_true rfl)⟩ (fun v1192 H locs F G R S hpo hM hS => ?_)
              obtain ⟨hIF, hIG, hIR, hfr9, hrr9, hgr9, hpo1193, hpo1194, hpo1195, hpo1196, hpo1197, hpo1198, hpo1199, hpo1200, hpo1201, hpo1202, hx1203⟩ := hpo
              have hq_v1192 := tk_rng v1192
              have hFF := mz_fr (K := [14, 15, 16, 18, 19, 23, 26, 29, 30]) (Fa := Fa) hfr9 hFF (by decide)
              have hRR := mz_fr (K := [24, 25, 27, 28]) (Fa := Ra) hrr9 hRR (by decide)
              have hGG := mz_fr (K := [17]) (Fa := Ga) hgr9 hGG (by decide)
              have hg_3 := (hfr9 13 (by decide)).trans hg_3
              obtain ⟨v1206, hf1205⟩ : ∃ z : Int32, F 14 = z := ⟨_, rfl⟩
              have hq_v1206 := tk_rng v1206
              rw [hf1205] at hpo1193 hpo1195 hpo1196 hpo1197 hpo1198 hpo1200
              have hr_v1206 : 0 ≤ v1206.toInt ∧ v1206.toInt ≤ 400 := hIF.at hf1205
              obtain ⟨v1208, hf1207⟩ : ∃ z : Int32, F 15 = z := ⟨_, rfl⟩
              have hq_v1208 := tk_rng v1208
              rw [hf1207] at hpo1193 hpo1194 hpo1195 hpo1196
              have hr_v1208 : 0 ≤ v1208.toInt ∧ v1208.toInt ≤ 400 := hIF.at hf1207
              obtain ⟨v1210, hf1209⟩ : ∃ z : Int32, F 16 = z := ⟨_, rfl⟩
              have hq_v1210 := tk_rng v1210
              rw [hf1209] at hpo1195 hpo1196
              have hr_v1210 : 0 ≤ v1210.toInt ∧ v1210.toInt ≤ 3 := hIF.at hf1209
              obtain ⟨w1212, hf1211⟩ : ∃ z : Int64, G 17 = z := ⟨_, rfl⟩
              have hq_w1212 := tk_rngL w1212
              rw [hf1211] at hpo1196
              obtain ⟨v1214, hf1213⟩ : ∃ z : Int32, F 19 = z := ⟨_, rfl⟩
              have hq_v1214 := tk_rng v1214
              rw [hf1213] at hpo1200
              have hr_v1214 : 0 ≤ v1214.toInt ∧ v1214.toInt ≤ 1 := hIF.at hf1213
              obtain ⟨v1216, hf1215⟩ : ∃ z : Int32, F 23 = z := ⟨_, rfl⟩
              have hq_v1216 := tk_rng v1216
              rw [hf1215] at hpo1198 hpo1199
              have hr_v1216 : 0 ≤ v1216.toInt ∧ v1216.toInt ≤ 400 := hIF.at hf1215
              obtain ⟨v1218, hf1217⟩ : ∃ z : Int32, F 29 = z := ⟨_, rfl⟩
              have hq_v1218 := tk_rng v1218
              rw [hf1217] at hpo1198
              have hr_v1218 : 0 ≤ v1218.toInt ∧ v1218.toInt ≤ 400 := hIF.at hf1217
              have hPT : (F 19).toInt = 0 → PT (R 24) (R 25) (R 27) (R 28) zs (F 23).toInt.toNat (F 29).toInt.toNat v1192.toInt ∧ low zs (Ra 24) (R 24) ∧ low zs (Ra 25) (R 25) := fun h9 => ⟨(hx1203 h9).1, hL9.1.trans (hx1203 h9).2.1 (Nat.le_refl _), hL9.2.trans (hx1203 h9).2.2 (Nat.le_refl _)⟩
              refine lv_goto (tgt := 72) hx hb dX13_readExpression_40 (by decide) ?_
              refine lv_istore_n (lv' := [(2, .int v1192), (0, .ref am), (1, .int p1)]) hx hb dX13_readExpression_72 rfl hl (by decide) rfl (fun ls hl => ?_)
              refine lv_goto (tgt := 20) hx hb dX13_readExpression_73 (by decide) ?_
              exact ih_l1082 v1192 v1206 v1208 v1210 w1212 v1214 v1216 v1218 _ _ _ _ _ _ (by omega) (by omega) (by omega) (by omega) (by omega) (by omega) (by omega) (by omega) (by omega) (by omega) (by omega) (by omega) hM hS hIF hIG hIR hFF hGG hRR hf1205 hf1207 hf1209 hg_3 hf1211 hf1213 hf1215 hf1217 (by omega) (by omega) hPT (mz_me.lt hm_l1082 (by omega) (by omega) (by omega) (by omega) (by omega)) _ (lv_sub hl [0, 1, 2] rfl)
    have hk_1 : (1 : Int32).toInt = 1 := by decide
    have hk_0 : (0 : Int32).toInt = 0 := by decide
    have hk_1 : (1 : Int32).toInt = 1 := by decide
    exact hl1082 2011 1 gf gt gs gw gb gc 0 _ _ _ _ _ _ (by omega) (by omega) (by omega) (by omega) (by omega) (by omega) (by omega) (by omega) (by omega) (by omega) (by omega) (by omega) hM hS hIF hIG hIR hFF (fun _ _ => rfl) (fun _ _ => rfl) hg_0 hg_1 hg_2 hg_3 hg_4 hg_5 hg_6 hf2 (by omega) (by omega) (fun _ => ⟨PT.mk hPI0 (by decide) (fun _ i h9 => absurd h9 (by rw [show (F 29).toInt = 0 by rw [hf2]; decide]; exact Nat.not_lt_zero _)) (fun h9 => absurd h9 (by decide)) rfl rfl rfl rfl rfl rfl, low.refl _ _, low.refl _ _⟩) (mz_me.le (by omega) (by omega)) _ (lv_sub hl [0, 1, 2] rfl)
  · have hc5 : ¬ (p1.toInt = 0) := fun h9 => c9 ((fi_eq rfl (show (0 : Int32).toInt = 0 by decide)).mpr h9)
    refine lv_iconst (v := 0) hx hb dX13_readExpression_14 (by decide) ?_
    refine lv_goto (tgt := 19) hx hb dX13_readExpression_15 (by decide) ?_
    refine lv_istore_n (lv' := [(2, .int 0), (0, .ref am), (1, .int p1)]) hx hb dX13_readExpression_19 rfl hl (by decide) rfl (fun ls hl => ?_)
    have hl1935 : ∀ (N_l1935 : Nat) (v1219 : Int32) (v1220 : Int32) (v1221 : Int32) (v1222 : Int32) (v1223 : Int64) (v1224 : Int32) (v1225 : Int32) (v1226 : Int32) (H : Heap) (locs : List Loc) (F : Nat → Int32) (G : Nat → Int64) (R : Nat → Nat → Int32) (S : Nat → Nat → Int64), (v1222.toInt ≤ 3) → (0 ≤ gb.toInt + (-1) * v1224.toInt + 1) → (0 ≤ (-1) * p1.toInt + v1222.toInt + 1) → (0 ≤ (-1) * p1.toInt + v1224.toInt + 1) → (0 ≤ (-1) * p1.toInt + v1226.toInt + 1) → (0 ≤ v1220.toInt + (-1) * v1225.toInt + (-1) * v1226.toInt) → (0 ≤ (-1) * gc.toInt + v1225.toInt) → (0 ≤ (-1) * gf.toInt + v1220.toInt) → (0 ≤ (-1) * v1220.toInt + v1221.toInt) → (0 ≤ gp.toInt + (-1) * v1221.toInt) → (0 ≤ v1219.toInt) → (v1219.toInt ≤ 4) → (mz_S D cy ad am F G R S H) → (va_S (mz_W ad am) s.heap H locs) → (mz_IF false F) → (mz_IG G) → (mz_IR [] true R) → (∀ k : Nat, k ∉ ([14, 15, 16, 18, 19, 23, 26, 29, 30] : List Nat) → F k = Fa k) → (∀ k : Nat, k ∉ ([17] : List Nat) → G k = Ga k) → (∀ k : Nat, k ∉ ([24, 25, 27, 28] : List Nat) → R k = Ra k) → (F 14 = v1220) → (F 15 = v1221) → (F 16 = v1222) → (F 13 = gp) → (G 17 = v1223) → (F 19 = v1224) → (F 23 = v1225) → (F 29 = v1226) → ((1 ≤ v1222.toInt → 0 ≤ (-1) * v1220.toInt + v1221.toInt + (-1))) → ((27 ≤ v1223.toInt → 1 ≤ v1222.toInt → v1222.toInt ≤ 1 → 0 ≤ (-1) * v1220.toInt + v1221.toInt + (-2))) → ((F 19).toInt = 0 → PT (R 24) (R 25) (R 27) (R 28) zs (F 23).toInt.toNat (F 29).toInt.toNat v1219.toInt ∧ low zs (Ra 24) (R 24) ∧ low zs (Ra 25) (R 25)) → (mz_me v1224.toInt v1219.toInt v1220.toInt < (N_l1935 : Int)) → ∀ ls : Array Slot, lv_has ls 3 [(2, .int v1219), (0, .ref am), (1, .int p1)] → W p l e ({ frames := 9, cells := 0, slots := 0, locals := 560 }) s m args below meth c H locs 0 0 (MQ below (mz_w D cy ad am (fun F G R S => mz_IF false F ∧ mz_IG G ∧ mz_IR [] true R ∧ (∀ k : Nat, k ∉ ([14, 15, 16, 18, 19, 23, 26, 29, 30] : List Nat) → F k = Fa k) ∧ (∀ k : Nat, k ∉ ([24, 25, 27, 28] : List Nat) → R k = Ra k) ∧ (∀ k : Nat, k ∉ ([17] : List Nat) → G k = Ga k) ∧ 0 ≤ (-1) * (F 14).toInt + (F 15).toInt ∧ 0 ≤ gp.toInt + (-1) * (F 15).toInt ∧ (1 ≤ (F 16).toInt → 0 ≤ (-1) * (F 14).toInt + (F 15).toInt + (-1)) ∧ (27 ≤ (G 17).toInt → 1 ≤ (F 16).toInt → (F 16).toInt ≤ 1 → 0 ≤ (-1) * (F 14).toInt + (F 15).toInt + (-2)) ∧ 0 ≤ (-1) * gf.toInt + (F 14).toInt ∧ 0 ≤ (-1) * (F 23).toInt + (F 14).toInt ∧ 0 ≤ (-1) * gc.toInt + (F 23).toInt ∧ ((F 19).toInt = 0 → WFC (R 24) (R 25) gc.toInt.toNat (F 23).toInt.toNat ∧ low gc.toInt.toNat (Ra 24) (R 24) ∧ low gc.toInt.toNat (Ra 25) (R 25)))) args s 0 0 (mz_W ad am)) (F0 m 20 ls []) := by
      intro N_l1935
      induction N_l1935 with
      | zero => intro v1219 v1220 v1221 v1222 v1223 v1224 v1225 v1226 H locs F G R S hq0_l1935 hq1_l1935 hq2_l1935 hq3_l1935 hq4_l1935 hq5_l1935 hq6_l1935 hq7_l1935 hq8_l1935 hq9_l1935 hq10_l1935 hq11_l1935 hM hS hIF hIG hIR hFF hGG hRR hg_0 hg_1 hg_2 hg_3 hg_4 hg_5 hg_6 hf2 hc0_l1935 hc1_l1935 hPT hm_l1935 ls hl; exfalso; have h9 := mz_me.nn (b := v1224.toInt) (t := v1219.toInt) (f := v1220.toInt) (by omega) (by omega); omega
      | succ N_l1935 ih_l1935 =>
        intro v1219 v1220 v1221 v1222 v1223 v1224 v1225 v1226 H locs F G R S hq0_l1935 hq1_l1935 hq2_l1935 hq3_l1935 hq4_l1935 hq5_l1935 hq6_l1935 hq7_l1935 hq8_l1935 hq9_l1935 hq10_l1935 hq11_l1935 hM hS hIF hIG hIR hFF hGG hRR hg_0 hg_1 hg_2 hg_3 hg_4 hg_5 hg_6 hf2 hc0_l1935 hc1_l1935 hPT hm_l1935 ls hl
        refine lv_aload_n hx hb dX13_readExpression_20 rfl (lv_at hl 1 rfl) ?_
        refine mz_getI hx hb htl hown hK hM 19 (Nat.le_of_ble_eq_true rfl) rfl (htl _ mw_668) (fun _ h9 => h9) dX13_readExpression_21 (fun v9 e9 => ?_)
        refine fx_ti (v := v1224) (e9.symm.trans hg_5) ?_
        refine lv_if_ne (tgt := 76) hx hb dX13_readExpression_24 (by decide) (fun c9 => ?_) (fun c9 => ?_)
        · have hc1936 : ¬ (v1224.toInt = 0) := fun h9 => c9 ((fi_eq rfl (show (0 : Int32).toInt = 0 by decide)).mpr h9)
          refine lv_aload_n hx hb dX13_readExpression_76 rfl (lv_at hl 1 rfl) ?_
          refine lv_iconst (v := 1) hx hb dX13_readExpression_77 (by decide) ?_
          have hk_1 : (1 : Int32).toInt = 1 := by decide
          refine mz_Vv (As := [.int 1]) (rest := []) ⟨hx, hb, hml, hown, hts⟩ hK hM hS (k_X13_settle l D cy ld ad am hD _ _ _ _ 1 v1225 v1226 v1224 zs hIF hIG hIR hg_6 hf2 hg_5 (by omega) (by omega) (by omega) (fun h9 => absurd h9 (by omega))) ⟨callB_of 1 hts (wl_in mw_773) rfl rfl rfl (htl _ mw_5) (htl _ mw_770) hd_yX13_settle ⟨(Nat.le_of_ble_eq_true rfl), (Nat.le_of_ble_eq_true rfl)⟩, htl _ mw_771, htl _ mw_772⟩ rfl hl.1 rfl (Nat.le_of_ble_eq_true rfl) dX13_readExpression_78 ⟨(Nat.le_of_ble_eq_true rfl), (Nat.le_of_ble_eq_true rfl)⟩ (fun H locs F G R S hpo hM hS => ?_)
          obtain ⟨hIF, hIG, hIR, hfr9, hrr9, hgr9, hpo1937, hpo1938, hpo1939, hx1940, hx1941, hx1942⟩ := hpo
          have hFF := mz_fr (K := [14, 15, 16, 18, 19, 23, 26, 29, 30]) (Fa := Fa) hfr9 hFF (by decide)
          have hRR := mz_fr (K := [24, 25, 27, 28]) (Fa := Ra) hrr9 hRR (by decide)
          have hGG := mz_fr (K := [17]) (Fa := Ga) hgr9 hGG (by decide)
          have hg_0 := (hfr9 14 (by decide)).trans hg_0
          have hg_1 := (hfr9 15 (by decide)).trans hg_1
          have hg_2 := (hfr9 16 (by decide)).trans hg_2
          have hg_3 := (hfr9 13 (by decide)).trans hg_3
          have hg_4 := (hgr9 17 (by decide)).trans hg_4
          have hg_5 := (hfr9 19 (by decide)).trans hg_5
          obtain ⟨v1945, hf1944⟩ : ∃ z : Int32, F 23 = z := ⟨_, rfl⟩
          have hq_v1945 := tk_rng v1945
          rw [hf1944] at hpo1937 hpo1939
          have hr_v1945 : 0 ≤ v1945.toInt ∧ v1945.toInt ≤ 400 := hIF.at hf1944
          obtain ⟨v1947, hf1946⟩ : ∃ z : Int32, F 29 = z := ⟨_, rfl⟩
          have hq_v1947 := tk_rng v1947
          rw [hf1946] at hpo1937 hpo1938
          have hr_v1947 : 0 ≤ v1947.toInt ∧ v1947.toInt ≤ 400 := hIF.at hf1946
          exact mz_vret hx hb hr hlocks ⟨hIF, hIG, hIR, hFF, hRR, hGG, (by rw [hg_0, hg_1]; omega), (by rw [hg_1]; omega), (by rw [hg_0, hg_1, hg_2]; omega), (by rw [hg_0, hg_1, hg_2, hg_4]; omega), (by rw [hg_0]; omega), (by rw [hg_0, hf1944]; omega), (by rw [hf1944]; omega), (by rw [hg_5]; exact fun h9 => absurd h9 (by omega))⟩ hM hS dX13_readExpression_81
        · have hc1936 : v1224.toInt = 0 := (fi_eq rfl (show (0 : Int32).toInt = 0 by decide)).mp c9
          refine lv_iload_n hx hb dX13_readExpression_27 rfl (lv_at hl 0 rfl) ?_
          refine lv_iconst (v := 4) hx hb dX13_readExpression_28 (by decide) ?_
          refine lv_icmp_eq (tgt := 76) hx hb dX13_readExpression_29 (by decide) (fun c9 => ?_) (fun c9 => ?_)
          · have hc1948 : v1219.toInt = 4 := (fi_eq rfl (show (4 : Int32).toInt = 4 by decide)).mp c9
            refine lv_aload_n hx hb dX13_readExpression_76 rfl (lv_at hl 1 rfl) ?_
            refine lv_iconst (v := 1) hx hb dX13_readExpression_77 (by decide) ?_
            have hPT := hPT (by rw [hg_5]; omega)
            have hPTT := hPT.1.2.2 (by omega)
            have hL7 := hPT.2
            have hPT : (F 19).toInt = 0 → _ := fun _ => hPT
            rw [hf2] at hPTT
            have hk_1 : (1 : Int32).toInt = 1 := by decide
            refine mz_Vv (As := [.int 1]) (rest := []) ⟨hx, hb, hml, hown, hts⟩ hK hM hS (k_X13_settle l D cy ld ad am hD _ _ _ _ 1 v1225 v1226 v1224 zs hIF hIG hIR hg_6 hf2 hg_5 (by omega) (by omega) (by omega) (fun h9 => by have h8 := (hPT (by rw [hg_5]; omega)).1.p (c := 1) (by rw [show v1219.toInt = 4 by omega]; decide); rw [hg_6, hf2] at h8; exact h8)) ⟨callB_of 1 hts (wl_in mw_773) rfl rfl rfl (htl _ mw_5) (htl _ mw_770) hd_yX13_settle ⟨(Nat.le_of_ble_eq_true rfl), (Nat.le_of_ble_eq_true rfl)⟩, htl _ mw_771, htl _ mw_772⟩ rfl hl.1 rfl (Nat.le_of_ble_eq_true rfl) dX13_readExpression_78 ⟨(Nat.le_of_ble_eq_true rfl), (Nat.le_of_ble_eq_true rfl)⟩ (fun H locs F G R S hpo hM hS => ?_)
            obtain ⟨hIF, hIG, hIR, hfr9, hrr9, hgr9, hpo1949, hpo1950, hpo1951, hx1952, hx1953, hx1954⟩ := hpo
            have hFF := mz_fr (K := [14, 15, 16, 18, 19, 23, 26, 29, 30]) (Fa := Fa) hfr9 hFF (by decide)
            have hRR := mz_fr (K := [24, 25, 27, 28]) (Fa := Ra) hrr9 hRR (by decide)
            have hGG := mz_fr (K := [17]) (Fa := Ga) hgr9 hGG (by decide)
            have hg_0 := (hfr9 14 (by decide)).trans hg_0
            have hg_1 := (hfr9 15 (by decide)).trans hg_1
            have hg_2 := (hfr9 16 (by decide)).trans hg_2
            have hg_3 := (hfr9 13 (by decide)).trans hg_3
            have hg_4 := (hgr9 17 (by decide)).trans hg_4
            have hg_5 := (hfr9 19 (by decide)).trans hg_5
            obtain ⟨v1957, hf1956⟩ : ∃ z : Int32, F 23 = z := ⟨_, rfl⟩
            have hq_v1957 := tk_rng v1957
            rw [hf1956] at hpo1949 hpo1951
            have hr_v1957 : 0 ≤ v1957.toInt ∧ v1957.toInt ≤ 400 := hIF.at hf1956
            obtain ⟨v1959, hf1958⟩ : ∃ z : Int32, F 29 = z := ⟨_, rfl⟩
            have hq_v1959 := tk_rng v1959
            rw [hf1958] at hpo1949 hpo1950
            have hr_v1959 : 0 ≤ v1959.toInt ∧ v1959.toInt ≤ 400 := hIF.at hf1958
            have hs9 := hx1952 (by omega)
            rw [hf1956, hf1958] at hs9
            rw [hf1958] at hx1954
            have hd0 : v1959.toInt.toNat = 0 := by
              by_cases h9 : 1 ≤ v1959.toInt
              · have h8 := (hx1954 h9).1 (by decide)
                have h7 := hPTT (v1959.toInt - 1).toNat (by omega)
                omega
              · omega
            have hL8 := hL7
            exact mz_vret hx hb hr hlocks ⟨hIF, hIG, hIR, hFF, hRR, hGG, (by rw [hg_0, hg_1]; omega), (by rw [hg_1]; omega), (by rw [hg_0, hg_1, hg_2]; omega), (by rw [hg_0, hg_1, hg_2, hg_4]; omega), (by rw [hg_0]; omega), (by rw [hg_0, hf1956]; omega), (by rw [hf1956]; omega), (fun _ => ⟨by rw [hf1956, ← hzs]; exact PT.over hs9.1 hd0, by rw [← hzs]; exact hL8.1.trans hs9.2.1 (Nat.le_refl _), by rw [← hzs]; exact hL8.2.trans hs9.2.2 (Nat.le_refl _)⟩)⟩ hM hS dX13_readExpression_81
          · have hc1948 : ¬ (v1219.toInt = 4) := fun h9 => c9 ((fi_eq rfl (show (4 : Int32).toInt = 4 by decide)).mpr h9)
            refine lv_iload_n hx hb dX13_readExpression_32 rfl (lv_at hl 0 rfl) ?_
            refine lv_if_ne (tgt := 43) hx hb dX13_readExpression_33 (by decide) (fun c9 => ?_) (fun c9 => ?_)
            · have hc1960 : ¬ (v1219.toInt = 0) := fun h9 => c9 ((fi_eq rfl (show (0 : Int32).toInt = 0 by decide)).mpr h9)
              refine lv_iload_n hx hb dX13_readExpression_43 rfl (lv_at hl 0 rfl) ?_
              refine lv_iconst (v := 1) hx hb dX13_readExpression_44 (by decide) ?_
              refine lv_icmp_ne (tgt := 55) hx hb dX13_readExpression_45 (by decide) (fun c9 => ?_) (fun c9 => ?_)
              · have hc1961 : ¬ (v1219.toInt = 1) := fun h9 => c9 ((fi_eq rfl (show (1 : Int32).toInt = 1 by decide)).mpr h9)
                refine lv_iload_n hx hb dX13_readExpression_55 rfl (lv_at hl 0 rfl) ?_
                refine lv_iconst (v := 3) hx hb dX13_readExpression_56 (by decide) ?_
                refine lv_icmp_ne (tgt := 68) hx hb dX13_readExpression_57 (by decide) (fun c9 => ?_) (fun c9 => ?_)
                · have hc1962 : ¬ (v1219.toInt = 3) := fun h9 => c9 ((fi_eq rfl (show (3 : Int32).toInt = 3 by decide)).mpr h9)
                  refine lv_aload_n hx hb dX13_readExpression_68 rfl (lv_at hl 1 rfl) ?_
                  have hL9 := (hPT (by rw [hg_5]; omega)).2
                  refine mz_Vi (As := []) (rest := []) ⟨hx, hb, hml, hown, hts⟩ hK hM hS (k_X13_behindTest l D cy ld ad am hD _ _ _ _ v1220 v1221 v1222 gp v1223 v1224 v1225 v1226 zs hIF hIG hIR hg_0 hg_1 hg_2 hg_3 hg_4 hg_5 hg_6 hf2 (by omega) (by omega) (by omega) (by omega) (by omega) (by omega) (by have h9 := (hPT (by rw [hg_5]; omega)).1; rw [hg_6, hf2, show v1219.toInt = 2 by omega] at h9; exact h9)) ⟨callB_of 0 hts (wl_in mw_789) rfl rfl rfl (htl _ mw_5) (htl _ mw_786) hd_yX13_behindTest ⟨(Nat.le_of_ble_eq_true rfl), (Nat.le_of_ble_eq_true rfl)⟩, htl _ mw_787, htl _ mw_788⟩ rfl hl.1 rfl (Nat.le_of_ble_eq_true rfl) dX13_readExpression_69 ⟨(Nat.le_of_ble_eq_true rfl), (Nat.le_of_ble_eq_true rfl)⟩ (fun v1963 H locs F G R S hpo hM hS => ?_)
                  obtain ⟨hIF, hIG, hIR, hfr9, hrr9, hgr9, hpo1964, hpo1965, hpo1966, hpo1967, hpo1968, hpo1969, hpo1970, hpo1971, hpo1972, hpo1973, hx1974⟩ := hpo
                  have hq_v1963 := tk_rng v1963
                  have hFF := mz_fr (K := [14, 15, 16, 18, 19, 23, 26, 29, 30]) (Fa := Fa) hfr9 hFF (by decide)
                  have hRR := mz_fr (K := [24, 25, 27, 28]) (Fa := Ra) hrr9 hRR (by decide)
                  have hGG := mz_fr (K := [17]) (Fa := Ga) hgr9 hGG (by decide)
                  have hg_3 := (hfr9 13 (by decide)).trans hg_3
                  obtain ⟨v1977, hf1976⟩ : ∃ z : Int32, F 14 = z := ⟨_, rfl⟩
                  have hq_v1977 := tk_rng v1977
                  rw [hf1976] at hpo1964 hpo1966 hpo1967 hpo1968 hpo1969 hpo1971
                  have hr_v1977 : 0 ≤ v1977.toInt ∧ v1977.toInt ≤ 400 := hIF.at hf1976
                  obtain ⟨v1979, hf1978⟩ : ∃ z : Int32, F 15 = z := ⟨_, rfl⟩
                  have hq_v1979 := tk_rng v1979
                  rw [hf1978] at hpo1964 hpo1965 hpo1966 hpo1967
                  have hr_v1979 : 0 ≤ v1979.toInt ∧ v1979.toInt ≤ 400 := hIF.at hf1978
                  obtain ⟨v1981, hf1980⟩ : ∃ z : Int32, F 16 = z := ⟨_, rfl⟩
                  have hq_v1981 := tk_rng v1981
                  rw [hf1980] at hpo1966 hpo1967
                  have hr_v1981 : 0 ≤ v1981.toInt ∧ v1981.toInt ≤ 3 := hIF.at hf1980
                  obtain ⟨w1983, hf1982⟩ : ∃ z : Int64, G 17 = z := ⟨_, rfl⟩
                  have hq_w1983 := tk_rngL w1983
                  rw [hf1982] at hpo1967
                  obtain ⟨v1985, hf1984⟩ : ∃ z : Int32, F 19 = z := ⟨_, rfl⟩
                  have hq_v1985 := tk_rng v1985
                  rw [hf1984] at hpo1971
                  have hr_v1985 : 0 ≤ v1985.toInt ∧ v1985.toInt ≤ 1 := hIF.at hf1984
                  obtain ⟨v1987, hf1986⟩ : ∃ z : Int32, F 23 = z := ⟨_, rfl⟩
                  have hq_v1987 := tk_rng v1987
                  rw [hf1986] at hpo1969 hpo1970
                  have hr_v1987 : 0 ≤ v1987.toInt ∧ v1987.toInt ≤ 400 := hIF.at hf1986
                  obtain ⟨v1989, hf1988⟩ : ∃ z : Int32, F 29 = z := ⟨_, rfl⟩
                  have hq_v1989 := tk_rng v1989
                  rw [hf1988] at hpo1969
                  have hr_v1989 : 0 ≤ v1989.toInt ∧ v1989.toInt ≤ 400 := hIF.at hf1988
                  have hPT : (F 19).toInt = 0 → PT (R 24) (R 25) (R 27) (R 28) zs (F 23).toInt.toNat (F 29).toInt.toNat v1963.toInt ∧ low zs (Ra 24) (R 24) ∧ low zs (Ra 25) (R 25) := fun h9 => ⟨(hx1974 h9).1, hL9.1.trans (hx1974 h9).2.1 (Nat.le_refl _), hL9.2.trans (hx1974 h9).2.2 (Nat.le_refl _)⟩
                  refine lv_istore_n (lv' := [(2, .int v1963), (0, .ref am), (1, .int p1)]) hx hb dX13_readExpression_72 rfl hl (by decide) rfl (fun ls hl => ?_)
                  refine lv_goto (tgt := 20) hx hb dX13_readExpression_73 (by decide) ?_
                  exact ih_l1935 v1963 v1977 v1979 v1981 w1983 v1985 v1987 v1989 _ _ _ _ _ _ (by omega) (by omega) (by omega) (by omega) (by omega) (by omega) (by omega) (by omega) (by omega) (by omega) (by omega) (by omega) hM hS hIF hIG hIR hFF hGG hRR hf1976 hf1978 hf1980 hg_3 hf1982 hf1984 hf1986 hf1988 (by omega) (by omega) hPT (mz_me.lt hm_l1935 (by omega) (by omega) (by omega) (by omega) (by omega)) _ (lv_sub hl [0, 1, 2] rfl)
                · have hc1962 : v1219.toInt = 3 := (fi_eq rfl (show (3 : Int32).toInt = 3 by decide)).mp c9
                  refine lv_aload_n hx hb dX13_readExpression_60 rfl (lv_at hl 1 rfl) ?_
                  refine lv_iload_n hx hb dX13_readExpression_61 rfl (lv_at hl 2 rfl) ?_
                  have hL9 := (hPT (by rw [hg_5]; omega)).2
                  refine mz_Vi (As := [.int p1]) (rest := []) ⟨hx, hb, hml, hown, hts⟩ hK hM hS (k_X13_behindSum l D cy ld ad am hD _ _ _ _ p1 v1220 v1221 v1222 gp v1223 v1224 v1225 v1226 zs hIF hIG hIR hg_0 hg_1 hg_2 hg_3 hg_4 hg_5 hg_6 hf2 (by omega) (by omega) (by omega) (by omega) (by omega) (by omega) (by omega) (by omega) (by have h9 := (hPT (by rw [hg_5]; omega)).1; rw [hg_6, hf2, show v1219.toInt = 3 by omega] at h9; exact h9)) ⟨callB_of 1 hts (wl_in mw_766) rfl rfl rfl (htl _ mw_5) (htl _ mw_763) hd_yX13_behindSum ⟨(Nat.le_of_ble_eq_true rfl), (Nat.le_of_ble_eq_true rfl)⟩, htl _ mw_764, htl _ mw_765⟩ rfl hl.1 rfl (Nat.le_of_ble_eq_true rfl) dX13_readExpression_62 ⟨(Nat.le_of_ble_eq_true rfl), (Nat.le_of_ble_eq_true rfl)⟩ (fun v1990 H locs F G R S hpo hM hS => ?_)
                  obtain ⟨hIF, hIG, hIR, hfr9, hrr9, hgr9, hpo1991, hpo1992, hpo1993, hpo1994, hpo1995, hpo1996, hpo1997, hpo1998, hpo1999, hpo2000, hpo2001, hx2002⟩ := hpo
                  have hq_v1990 := tk_rng v1990
                  have hFF := mz_fr (K := [14, 15, 16, 18, 19, 23, 26, 29, 30]) (Fa := Fa) hfr9 hFF (by decide)
                  have hRR := mz_fr (K := [24, 25, 27, 28]) (Fa := Ra) hrr9 hRR (by decide)
                  have hGG := mz_fr (K := [17]) (Fa := Ga) hgr9 hGG (by decide)
                  have hg_3 := (hfr9 13 (by decide)).trans hg_3
                  obtain ⟨v2005, hf2004⟩ : ∃ z : Int32, F 14 = z := ⟨_, rfl⟩
                  have hq_v2005 := tk_rng v2005
                  rw [hf2004] at hpo1991 hpo1993 hpo1994 hpo1995 hpo1996 hpo1998 hpo1999
                  have hr_v2005 : 0 ≤ v2005.toInt ∧ v2005.toInt ≤ 400 := hIF.at hf2004
                  obtain ⟨v2007, hf2006⟩ : ∃ z : Int32, F 15 = z := ⟨_, rfl⟩
                  have hq_v2007 := tk_rng v2007
                  rw [hf2006] at hpo1991 hpo1992 hpo1993 hpo1994
                  have hr_v2007 : 0 ≤ v2007.toInt ∧ v2007.toInt ≤ 400 := hIF.at hf2006
                  obtain ⟨v2009, hf2008⟩ : ∃ z : Int32, F 16 = z := ⟨_, rfl⟩
                  have hq_v2009 := tk_rng v2009
                  rw [hf2008] at hpo1993 hpo1994
                  have hr_v2009 : 0 ≤ v2009.toInt ∧ v2009.toInt ≤ 3 := hIF.at hf2008
                  obtain ⟨w2011, hf2010⟩ : ∃ z : Int64, G 17 = z := ⟨_, rfl⟩
                  have hq_w2011 := tk_rngL w2011
                  rw [hf2010] at hpo1994
                  obtain ⟨v2013, hf2012⟩ : ∃ z : Int32, F 19 = z := ⟨_, rfl⟩
                  have hq_v2013 := tk_rng v2013
                  rw [hf2012] at hpo1998 hpo1999
                  have hr_v2013 : 0 ≤ v2013.toInt ∧ v2013.toInt ≤ 1 := hIF.at hf2012
                  obtain ⟨v2015, hf2014⟩ : ∃ z : Int32, F 23 = z := ⟨_, rfl⟩
                  have hq_v2015 := tk_rng v2015
                  rw [hf2014] at hpo1996 hpo1997
                  have hr_v2015 : 0 ≤ v2015.toInt ∧ v2015.toInt ≤ 400 := hIF.at hf2014
                  obtain ⟨v2017, hf2016⟩ : ∃ z : Int32, F 29 = z := ⟨_, rfl⟩
                  have hq_v2017 := tk_rng v2017
                  rw [hf2016] at hpo1996
                  have hr_v2017 : 0 ≤ v2017.toInt ∧ v2017.toInt ≤ 400 := hIF.at hf2016
                  have hPT : (F 19).toInt = 0 → PT (R 24) (R 25) (R 27) (R 28) zs (F 23).toInt.toNat (F 29).toInt.toNat v1990.toInt ∧ low zs (Ra 24) (R 24) ∧ low zs (Ra 25) (R 25) := fun h9 => ⟨(hx2002 h9).1, hL9.1.trans (hx2002 h9).2.1 (Nat.le_refl _), hL9.2.trans (hx2002 h9).2.2 (Nat.le_refl _)⟩
                  refine lv_goto (tgt := 72) hx hb dX13_readExpression_65 (by decide) ?_
                  refine lv_istore_n (lv' := [(2, .int v1990), (0, .ref am), (1, .int p1)]) hx hb dX13_readExpression_72 rfl hl (by decide) rfl (fun ls hl => ?_)
                  refine lv_goto (tgt := 20) hx hb dX13_readExpression_73 (by decide) ?_
                  exact ih_l1935 v1990 v2005 v2007 v2009 w2011 v2013 v2015 v2017 _ _ _ _ _ _ (by omega) (by omega) (by omega) (by omega) (by omega) (by omega) (by omega) (by omega) (by omega) (by omega) (by omega) (by omega) hM hS hIF hIG hIR hFF hGG hRR hf2004 hf2006 hf2008 hg_3 hf2010 hf2012 hf2014 hf2016 (by omega) (by omega) hPT (mz_me.lt hm_l1935 (by omega) (by omega) (by omega) (by omega) (by omega)) _ (lv_sub hl [0, 1, 2] rfl)
              · have hc1961 : v1219.toInt = 1 := (fi_eq rfl (show (1 : Int32).toInt = 1 by decide)).mp c9
                refine lv_aload_n hx hb dX13_readExpression_48 rfl (lv_at hl 1 rfl) ?_
                have hL9 := (hPT (by rw [hg_5]; omega)).2
                refine mz_Vi (As := []) (rest := []) ⟨hx, hb, hml, hown, hts⟩ hK hM hS (k_X13_readPart l D cy ld ad am hD _ _ _ _ v1220 v1221 v1222 gp v1223 v1224 v1225 v1226 zs hIF hIG hIR hg_0 hg_1 hg_2 hg_3 hg_4 hg_5 hg_6 hf2 (by omega) (by omega) (by omega) (by omega) (by omega) (by omega) (by have h9 := (hPT (by rw [hg_5]; omega)).1.p (c := 0) (by rw [show v1219.toInt = 1 by omega]; decide); rw [hg_6, hf2] at h9; exact h9)) ⟨callB_of 0 hts (wl_in mw_740) rfl rfl rfl (htl _ mw_5) (htl _ mw_737) hd_yX13_readPart ⟨(Nat.le_of_ble_eq_true rfl), (Nat.le_of_ble_eq_true rfl)⟩, htl _ mw_738, htl _ mw_739⟩ rfl hl.1 rfl (Nat.le_of_ble_eq_true rfl) dX13_readExpression_49 ⟨(Nat.le_of_ble_eq_true rfl), (Nat.le_of_ble_eq_true rfl)⟩ (fun v2018 H locs F G R S hpo hM hS => ?_)
                obtain ⟨hIF, hIG, hIR, hfr9, hrr9, hgr9, hpo2019, hpo2020, hpo2021, hpo2022, hpo2023, hpo2024, hpo2025, hpo2026, hpo2027, hpo2028, hx2029⟩ := hpo
                have hq_v2018 := tk_rng v2018
                have hFF := mz_fr (K := [14, 15, 16, 18, 19, 23, 26, 29, 30]) (Fa := Fa) hfr9 hFF (by decide)
                have hRR := mz_fr (K := [24, 25, 27, 28]) (Fa := Ra) hrr9 hRR (by decide)
                have hGG := mz_fr (K := [17]) (Fa := Ga) hgr9 hGG (by decide)
                have hg_3 := (hfr9 13 (by decide)).trans hg_3
                obtain ⟨v2032, hf2031⟩ : ∃ z : Int32, F 14 = z := ⟨_, rfl⟩
                have hq_v2032 := tk_rng v2032
                rw [hf2031] at hpo2019 hpo2021 hpo2022 hpo2023 hpo2024 hpo2026
                have hr_v2032 : 0 ≤ v2032.toInt ∧ v2032.toInt ≤ 400 := hIF.at hf2031
                obtain ⟨v2034, hf2033⟩ : ∃ z : Int32, F 15 = z := ⟨_, rfl⟩
                have hq_v2034 := tk_rng v2034
                rw [hf2033] at hpo2019 hpo2020 hpo2021 hpo2022
                have hr_v2034 : 0 ≤ v2034.toInt ∧ v2034.toInt ≤ 400 := hIF.at hf2033
                obtain ⟨v2036, hf2035⟩ : ∃ z : Int32, F 16 = z := ⟨_, rfl⟩
                have hq_v2036 := tk_rng v2036
                rw [hf2035] at hpo2021 hpo2022
                have hr_v2036 : 0 ≤ v2036.toInt ∧ v2036.toInt ≤ 3 := hIF.at hf2035
                obtain ⟨w2038, hf2037⟩ : ∃ z : Int64, G 17 = z := ⟨_, rfl⟩
                have hq_w2038 := tk_rngL w2038
                rw [hf2037] at hpo2022
                obtain ⟨v2040, hf2039⟩ : ∃ z : Int32, F 19 = z := ⟨_, rfl⟩
                have hq_v2040 := tk_rng v2040
                rw [hf2039] at hpo2026
                have hr_v2040 : 0 ≤ v2040.toInt ∧ v2040.toInt ≤ 1 := hIF.at hf2039
                obtain ⟨v2042, hf2041⟩ : ∃ z : Int32, F 23 = z := ⟨_, rfl⟩
                have hq_v2042 := tk_rng v2042
                rw [hf2041] at hpo2024 hpo2025
                have hr_v2042 : 0 ≤ v2042.toInt ∧ v2042.toInt ≤ 400 := hIF.at hf2041
                obtain ⟨v2044, hf2043⟩ : ∃ z : Int32, F 29 = z := ⟨_, rfl⟩
                have hq_v2044 := tk_rng v2044
                rw [hf2043] at hpo2024
                have hr_v2044 : 0 ≤ v2044.toInt ∧ v2044.toInt ≤ 400 := hIF.at hf2043
                have hPT : (F 19).toInt = 0 → PT (R 24) (R 25) (R 27) (R 28) zs (F 23).toInt.toNat (F 29).toInt.toNat v2018.toInt ∧ low zs (Ra 24) (R 24) ∧ low zs (Ra 25) (R 25) := fun h9 => ⟨(hx2029 h9).1, hL9.1.trans (hx2029 h9).2.1 (Nat.le_refl _), hL9.2.trans (hx2029 h9).2.2 (Nat.le_refl _)⟩
                refine lv_goto (tgt := 72) hx hb dX13_readExpression_52 (by decide) ?_
                refine lv_istore_n (lv' := [(2, .int v2018), (0, .ref am), (1, .int p1)]) hx hb dX13_readExpression_72 rfl hl (by decide) rfl (fun ls hl => ?_)
                refine lv_goto (tgt := 20) hx hb dX13_readExpression_73 (by decide) ?_
                exact ih_l1935 v2018 v2032 v2034 v2036 w2038 v2040 v2042 v2044 _ _ _ _ _ _ (by omega) (by omega) (by omega) (by omega) (by omega) (by omega) (by omega) (by omega) (by omega) (by omega) (by omega) (by omega) hM hS hIF hIG hIR hFF hGG hRR hf2031 hf2033 hf2035 hg_3 hf2037 hf2039 hf2041 hf2043 (by omega) (by omega) hPT (mz_me.lt hm_l1935 (by omega) (by omega) (by omega) (by omega) (by omega)) _ (lv_sub hl [0, 1, 2] rfl)
            · have hc1960 : v1219.toInt = 0 := (fi_eq rfl (show (0 : Int32).toInt = 0 by decide)).mp c9
              refine lv_aload_n hx hb dX13_readExpression_36 rfl (lv_at hl 1 rfl) ?_
              have hL9 := (hPT (by rw [hg_5]; omega)).2
              refine mz_Vi (As := []) (rest := []) ⟨hx, hb, hml, hown, hts⟩ hK hM hS (k_X13_readPlain l D cy ld ad am hD _ _ _ _ v1220 v1221 v1222 gp v1223 v1224 v1225 v1226 zs hIF hIG hIR hg_0 hg_1 hg_2 hg_3 hg_4 hg_5 hg_6 hf2 (by omega) (by omega) (by omega) (by omega) (by omega) (by omega) (by have h9 := (hPT (by rw [hg_5]; omega)).1; rw [hg_6, hf2, show v1219.toInt = 0 by omega] at h9; exact h9)) ⟨callB_of 0 hts (wl_in mw_723) rfl rfl rfl (htl _ mw_5) (htl _ mw_720) hd_yX13_readPlain ⟨(Nat.le_of_ble_eq_true rfl), (Nat.le_of_ble_eq_true rfl)⟩, htl _ mw_721, htl _ mw_722⟩ rfl hl.1 rfl (Nat.le_of_ble_eq_true rfl) dX13_readExpression_37 ⟨(Nat.le_of_ble_eq_true rfl), (Nat.le_of_ble_eq_true rfl)⟩ (fun v2045 H locs F G R S hpo hM hS => ?_)
              obtain ⟨hIF, hIG, hIR, hfr9, hrr9, hgr9, hpo2046, hpo2047, hpo2048, hpo2049, hpo2050, hpo2051, hpo2052, hpo2053, hpo2054, hpo2055, hx2056⟩ := hpo
              have hq_v2045 := tk_rng v2045
              have hFF := mz_fr (K := [14, 15, 16, 18, 19, 23, 26, 29, 30]) (Fa := Fa) hfr9 hFF (by decide)
              have hRR := mz_fr (K := [24, 25, 27, 28]) (Fa := Ra) hrr9 hRR (by decide)
              have hGG := mz_fr (K := [17]) (Fa := Ga) hgr9 hGG (by decide)
              have hg_3 := (hfr9 13 (by decide)).trans hg_3
              obtain ⟨v2059, hf2058⟩ : ∃ z : Int32, F 14 = z := ⟨_, rfl⟩
              have hq_v2059 := tk_rng v2059
              rw [hf2058] at hpo2046 hpo2048 hpo2049 hpo2050 hpo2051 hpo2053
              have hr_v2059 : 0 ≤ v2059.toInt ∧ v2059.toInt ≤ 400 := hIF.at hf2058
              obtain ⟨v2061, hf2060⟩ : ∃ z : Int32, F 15 = z := ⟨_, rfl⟩
              have hq_v2061 := tk_rng v2061
              rw [hf2060] at hpo2046 hpo2047 hpo2048 hpo2049
              have hr_v2061 : 0 ≤ v2061.toInt ∧ v2061.toInt ≤ 400 := hIF.at hf2060
              obtain ⟨v2063, hf2062⟩ : ∃ z : Int32, F 16 = z := ⟨_, rfl⟩
              have hq_v2063 := tk_rng v2063
              rw [hf2062] at hpo2048 hpo2049
              have hr_v2063 : 0 ≤ v2063.toInt ∧ v2063.toInt ≤ 3 := hIF.at hf2062
              obtain ⟨w2065, hf2064⟩ : ∃ z : Int64, G 17 = z := ⟨_, rfl⟩
              have hq_w2065 := tk_rngL w2065
              rw [hf2064] at hpo2049
              obtain ⟨v2067, hf2066⟩ : ∃ z : Int32, F 19 = z := ⟨_, rfl⟩
              have hq_v2067 := tk_rng v2067
              rw [hf2066] at hpo2053
              have hr_v2067 : 0 ≤ v2067.toInt ∧ v2067.toInt ≤ 1 := hIF.at hf2066
              obtain ⟨v2069, hf2068⟩ : ∃ z : Int32, F 23 = z := ⟨_, rfl⟩
              have hq_v2069 := tk_rng v2069
              rw [hf2068] at hpo2051 hpo2052
              have hr_v2069 : 0 ≤ v2069.toInt ∧ v2069.toInt ≤ 400 := hIF.at hf2068
              obtain ⟨v2071, hf2070⟩ : ∃ z : Int32, F 29 = z := ⟨_, rfl⟩
              have hq_v2071 := tk_rng v2071
              rw [hf2070] at hpo2051
              have hr_v2071 : 0 ≤ v2071.toInt ∧ v2071.toInt ≤ 400 := hIF.at hf2070
              have hPT : (F 19).toInt = 0 → PT (R 24) (R 25) (R 27) (R 28) zs (F 23).toInt.toNat (F 29).toInt.toNat v2045.toInt ∧ low zs (Ra 24) (R 24) ∧ low zs (Ra 25) (R 25) := fun h9 => ⟨(hx2056 h9).1, hL9.1.trans (hx2056 h9).2.1 (Nat.le_refl _), hL9.2.trans (hx2056 h9).2.2 (Nat.le_refl _)⟩
              refine lv_goto (tgt := 72) hx hb dX13_readExpression_40 (by decide) ?_
              refine lv_istore_n (lv' := [(2, .int v2045), (0, .ref am), (1, .int p1)]) hx hb dX13_readExpression_72 rfl hl (by decide) rfl (fun ls hl => ?_)
              refine lv_goto (tgt := 20) hx hb dX13_readExpression_73 (by decide) ?_
              exact ih_l1935 v2045 v2059 v2061 v2063 w2065 v2067 v2069 v2071 _ _ _ _ _ _ (by omega) (by omega) (by omega) (by omega) (by omega) (by omega) (by omega) (by omega) (by omega) (by omega) (by omega) (by omega) hM hS hIF hIG hIR hFF hGG hRR hf2058 hf2060 hf2062 hg_3 hf2064 hf2066 hf2068 hf2070 (by omega) (by omega) hPT (mz_me.lt hm_l1935 (by omega) (by omega) (by omega) (by omega) (by omega)) _ (lv_sub hl [0, 1, 2] rfl)
    have hk_0 : (0 : Int32).toInt = 0 := by decide
    have hk_0 : (0 : Int32).toInt = 0 := by decide
    have hk_0 : (0 : Int32).toInt = 0 := by decide
    exact hl1935 2011 0 gf gt gs gw gb gc 0 _ _ _ _ _ _ (by omega) (by omega) (by omega) (by omega) (by omega) (by omega) (by omega) (by omega) (by omega) (by omega) (by omega) (by omega) hM hS hIF hIG hIR hFF (fun _ _ => rfl) (fun _ _ => rfl) hg_0 hg_1 hg_2 hg_3 hg_4 hg_5 hg_6 hf2 (by omega) (by omega) (fun _ => ⟨PT.mk hPI0 (by decide) (fun _ i h9 => absurd h9 (by rw [show (F 29).toInt = 0 by rw [hf2]; decide]; exact Nat.not_lt_zero _)) (fun h9 => absurd h9 (by decide)) rfl rfl rfl rfl rfl rfl, low.refl _ _, low.refl _ _⟩) (mz_me.le (by omega) (by omega)) _ (lv_sub hl [0, 1, 2] rfl)
