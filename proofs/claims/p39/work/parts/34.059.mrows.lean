theorem hd_yX13_behindTest : yX13_behindTest.cls ≠ "java/lang/invoke/MethodHandle" ∧ yX13_behindTest.cls ≠ "java/lang/invoke/VarHandle" ∧ (parseMethodDescriptor yX13_behindTest.desc).map (fun d => d.parameters.length) = some 0 := by decide +kernel
theorem hd_yX13_behindSum : yX13_behindSum.cls ≠ "java/lang/invoke/MethodHandle" ∧ yX13_behindSum.cls ≠ "java/lang/invoke/VarHandle" ∧ (parseMethodDescriptor yX13_behindSum.desc).map (fun d => d.parameters.length) = some 1 := by decide +kernel
theorem hd_yX13_readPlain : yX13_readPlain.cls ≠ "java/lang/invoke/MethodHandle" ∧ yX13_readPlain.cls ≠ "java/lang/invoke/VarHandle" ∧ (parseMethodDescriptor yX13_readPlain.desc).map (fun d => d.parameters.length) = some 0 := by decide +kernel
theorem dX13_readExpression_0 : decode cX13_readExpression 0 = .ok (.aload_n 0, 1) := by decide +kernel
theorem dX13_readExpression_1 : decode cX13_readExpression 1 = .ok (.iconst 0, 1) := by decide +kernel
theorem dX13_readExpression_2 : decode cX13_readExpression 2 = .ok (.putfield 278, 3) := by decide +kernel
theorem dX13_readExpression_5 : decode cX13_readExpression 5 = .ok (.aload_n 0, 1) := by decide +kernel
theorem dX13_readExpression_6 : decode cX13_readExpression 6 = .ok (.iconst 0, 1) := by decide +kernel
theorem dX13_readExpression_7 : decode cX13_readExpression 7 = .ok (.putfield 300, 3) := by decide +kernel
theorem dX13_readExpression_10 : decode cX13_readExpression 10 = .ok (.iload_n 1, 1) := by decide +kernel
theorem dX13_readExpression_11 : decode cX13_readExpression 11 = .ok (.ifCond .eq 7, 3) := by decide +kernel
theorem dX13_readExpression_18 : decode cX13_readExpression 18 = .ok (.iconst 1, 1) := by decide +kernel
theorem dX13_readExpression_19 : decode cX13_readExpression 19 = .ok (.istore_n 2, 1) := by decide +kernel
theorem dX13_readExpression_20 : decode cX13_readExpression 20 = .ok (.aload_n 0, 1) := by decide +kernel
theorem dX13_readExpression_21 : decode cX13_readExpression 21 = .ok (.getfield 236, 3) := by decide +kernel
theorem dX13_readExpression_24 : decode cX13_readExpression 24 = .ok (.ifCond .ne 52, 3) := by decide +kernel
theorem dX13_readExpression_76 : decode cX13_readExpression 76 = .ok (.aload_n 0, 1) := by decide +kernel
theorem dX13_readExpression_77 : decode cX13_readExpression 77 = .ok (.iconst 1, 1) := by decide +kernel
theorem dX13_readExpression_78 : decode cX13_readExpression 78 = .ok (.invokevirtual 342, 3) := by decide +kernel
theorem dX13_readExpression_81 : decode cX13_readExpression 81 = .ok (.return_, 1) := by decide +kernel
theorem dX13_readExpression_27 : decode cX13_readExpression 27 = .ok (.iload_n 2, 1) := by decide +kernel
theorem dX13_readExpression_28 : decode cX13_readExpression 28 = .ok (.iconst 4, 1) := by decide +kernel
theorem dX13_readExpression_29 : decode cX13_readExpression 29 = .ok (.if_icmp .eq 47, 3) := by decide +kernel
theorem dX13_readExpression_32 : decode cX13_readExpression 32 = .ok (.iload_n 2, 1) := by decide +kernel
theorem dX13_readExpression_33 : decode cX13_readExpression 33 = .ok (.ifCond .ne 10, 3) := by decide +kernel
theorem dX13_readExpression_43 : decode cX13_readExpression 43 = .ok (.iload_n 2, 1) := by decide +kernel
theorem dX13_readExpression_44 : decode cX13_readExpression 44 = .ok (.iconst 1, 1) := by decide +kernel
theorem dX13_readExpression_45 : decode cX13_readExpression 45 = .ok (.if_icmp .ne 10, 3) := by decide +kernel
theorem dX13_readExpression_55 : decode cX13_readExpression 55 = .ok (.iload_n 2, 1) := by decide +kernel
theorem dX13_readExpression_56 : decode cX13_readExpression 56 = .ok (.iconst 3, 1) := by decide +kernel
theorem dX13_readExpression_57 : decode cX13_readExpression 57 = .ok (.if_icmp .ne 11, 3) := by decide +kernel
theorem dX13_readExpression_68 : decode cX13_readExpression 68 = .ok (.aload_n 0, 1) := by decide +kernel
theorem dX13_readExpression_69 : decode cX13_readExpression 69 = .ok (.invokevirtual 363, 3) := by decide +kernel
theorem dX13_readExpression_72 : decode cX13_readExpression 72 = .ok (.istore_n 2, 1) := by decide +kernel
theorem dX13_readExpression_73 : decode cX13_readExpression 73 = .ok (.goto (-53), 3) := by decide +kernel
theorem dX13_readExpression_60 : decode cX13_readExpression 60 = .ok (.aload_n 0, 1) := by decide +kernel
theorem dX13_readExpression_61 : decode cX13_readExpression 61 = .ok (.iload_n 1, 1) := by decide +kernel
theorem dX13_readExpression_62 : decode cX13_readExpression 62 = .ok (.invokevirtual 359, 3) := by decide +kernel
theorem dX13_readExpression_65 : decode cX13_readExpression 65 = .ok (.goto 7, 3) := by decide +kernel
theorem dX13_readExpression_48 : decode cX13_readExpression 48 = .ok (.aload_n 0, 1) := by decide +kernel
theorem dX13_readExpression_49 : decode cX13_readExpression 49 = .ok (.invokevirtual 339, 3) := by decide +kernel
theorem dX13_readExpression_52 : decode cX13_readExpression 52 = .ok (.goto 20, 3) := by decide +kernel
theorem dX13_readExpression_36 : decode cX13_readExpression 36 = .ok (.aload_n 0, 1) := by decide +kernel
theorem dX13_readExpression_37 : decode cX13_readExpression 37 = .ok (.invokevirtual 356, 3) := by decide +kernel
theorem dX13_readExpression_40 : decode cX13_readExpression 40 = .ok (.goto 32, 3) := by decide +kernel
theorem dX13_readExpression_14 : decode cX13_readExpression 14 = .ok (.iconst 0, 1) := by decide +kernel
theorem dX13_readExpression_15 : decode cX13_readExpression 15 = .ok (.goto 4, 3) := by decide +kernel
set_option maxHeartbeats 4000000 in
set_option maxRecDepth 100000 in
theorem k_X13_readExpression (l : Launch) (D : va_G) (cy : Nat → ClassId) (ld ad : Nat → Nat) (am : Nat) (hD : mz_D ad am) (Fa : Nat → Int32) (Ga : Nat → Int64) (Ra : Nat → Nat → Int32) (Sa : Nat → Nat → Int64) (p1 : Int32) (gf : Int32) (gt : Int32) (gs : Int32) (gp : Int32) (gw : Int64) (gb : Int32) (gc : Int32) (hIF : mz_IF false Fa) (hIG : mz_IG Ga) (hIR : mz_IR [] true Ra) (hg_0 : Fa 14 = gf) (hg_1 : Fa 15 = gt) (hg_2 : Fa 16 = gs) (hg_3 : Fa 13 = gp) (hg_4 : Ga 17 = gw) (hg_5 : Fa 19 = gb) (hg_6 : Fa 23 = gc) (hp_0 : 0 ≤ p1.toInt) (hp_1 : p1.toInt ≤ 1) (hp_2 : 0 ≤ (-1) * gf.toInt + gt.toInt) (hp_3 : 0 ≤ gp.toInt + (-1) * gt.toInt) (hp_4 : (1 ≤ gs.toInt → 0 ≤ (-1) * gf.toInt + gt.toInt + (-1))) (hp_5 : (27 ≤ gw.toInt → 1 ≤ gs.toInt → gs.toInt ≤ 1 → 0 ≤ (-1) * gf.toInt + gt.toInt + (-2))) (hp_6 : 0 ≤ (-1) * gc.toInt + gf.toInt) (hp_7 : gb.toInt ≤ 0) : Met l yX13_readExpression (wl yX13_readExpression cX13_readExpression 3 none) ({ frames := 9, cells := 0, slots := 0, locals := 560 }) (mz_p D cy ld ad am Fa Ga Ra Sa [.ref am, .int p1]) (mz_w D cy ad am (fun F G R S => mz_IF false F ∧ mz_IG G ∧ mz_IR [] true R ∧ (∀ k : Nat, k ∉ ([14, 15, 16, 18, 19, 23, 26, 29, 30] : List Nat) → F k = Fa k) ∧ (∀ k : Nat, k ∉ ([24, 25, 27, 28] : List Nat) → R k = Ra k) ∧ (∀ k : Nat, k ∉ ([17] : List Nat) → G k = Ga k) ∧ 0 ≤ (-1) * (F 14).toInt + (F 15).toInt ∧ 0 ≤ gp.toInt + (-1) * (F 15).toInt ∧ (1 ≤ (F 16).toInt → 0 ≤ (-1) * (F 14).toInt + (F 15).toInt + (-1)) ∧ (27 ≤ (G 17).toInt → 1 ≤ (F 16).toInt → (F 16).toInt ≤ 1 → 0 ≤ (-1) * (F 14).toInt + (F 15).toInt + (-2)) ∧ 0 ≤ (-1) * gf.toInt + (F 14).toInt ∧ 0 ≤ (-1) * (F 23).toInt + (F 14).toInt ∧ 0 ≤ (-1) * gc.toInt + (F 23).toInt ∧ ((F 19).toInt = 0 → WFC (R 24) (R 25) gc.toInt.toNat (F 23).toInt.toNat ∧ low gc.toInt.toNat (Ra 24) (R 24) ∧ low gc.toInt.toNat (Ra 25) (R 25)))) 0 0 (mz_W ad am) := by
  refine mz_met (y := yX13_readExpression) (cc := cX13_readExpression) (maxL := 3) (ret := none) (av := [.ref am, .int p1]) _ (by decide) (Nat.le_of_ble_eq_true rfl) ?_
  intro p e s m args below meth c hx hb hr hml hts htl hown hlocks hK H locs hM hS ls hl
  have hown : s.vm.findClass RX13 = some m.cls := hown
  have hl : lv_has ls 3 [(0, .ref am), (1, .int p1)] := hl
  have hr_p1 := tk_rng p1
  have hq_gf := tk_rng gf
  have hq_gt := tk_rng gt
  have hq_gs := tk_rng gs
  have hq_gp := tk_rng gp
  have hq_gw := tk_rngL gw
  have hq_gb := tk_rng gb
  have hq_gc := tk_rng gc
  have hr_gf : 0 ≤ gf.toInt ∧ gf.toInt ≤ 400 := hIF.at hg_0
  have hr_gt : 0 ≤ gt.toInt ∧ gt.toInt ≤ 400 := hIF.at hg_1
  have hr_gs : 0 ≤ gs.toInt ∧ gs.toInt ≤ 3 := hIF.at hg_2
  have hr_gp : 0 ≤ gp.toInt ∧ gp.toInt ≤ 400 := hIF.at hg_3
  have hr_gb : 0 ≤ gb.toInt ∧ gb.toInt ≤ 1 := hIF.at hg_5
  have hr_gc : 0 ≤ gc.toInt ∧ gc.toInt ≤ 400 := hIF.at hg_6
  refine lv_aload_n hx hb dX13_readExpression_0 rfl (lv_at hl 0 rfl) ?_
  refine lv_iconst (v := 0) hx hb dX13_readExpression_1 (by decide) ?_
  have hk_0 : (0 : Int32).toInt = 0 := by decide
  have hk_0 : (0 : Int32).toInt = 0 := by decide
  refine mz_putI (ty := .int) (x := 0) hx hb htl hown hK hD hM hS 29 (Nat.le_of_ble_eq_true rfl) rfl (htl _ mw_718) (fun _ h9 => h9) rfl (tyX13_ok 29 (by decide)) rfl rfl dX13_readExpression_2 (fun H locs F hM hS hf9 hj9 => ?_)
  have hIF := hIF.put hf9 hj9 (show 0 ≤ (0 : Int32).toInt by omega) (show (0 : Int32).toInt ≤ 400 by omega) (by decide)
  have hFF := mz_frp (K := [14, 15, 16, 18, 19, 23, 26, 29, 30]) (Fa := Fa) hj9 (fun _ _ => rfl) (by decide)
  have hg_0 := (hj9 14 (by decide)).trans hg_0
  have hg_1 := (hj9 15 (by decide)).trans hg_1
  have hg_2 := (hj9 16 (by decide)).trans hg_2
  have hg_3 := (hj9 13 (by decide)).trans hg_3
  have hg_5 := (hj9 19 (by decide)).trans hg_5
  have hg_6 := (hj9 23 (by decide)).trans hg_6
  have hf2 := hf9
  refine lv_aload_n hx hb dX13_readExpression_5 rfl (lv_at hl 0 rfl) ?_
  refine lv_iconst (v := 0) hx hb dX13_readExpression_6 (by decide) ?_
  have hk_0 : (0 : Int32).toInt = 0 := by decide
  refine mz_putI (ty := .int) (x := 0) hx hb htl hown hK hD hM hS 30 (Nat.le_of_ble_eq_true rfl) rfl (htl _ mw_719) (fun _ h9 => h9) rfl (tyX13_ok 30 (by decide)) rfl rfl dX13_readExpression_7 (fun H locs F hM hS hf9 hj9 => ?_)
  have hIF := hIF.put hf9 hj9 (tk_rng _).1 (tk_rng _).2 (by decide)
  have hFF := mz_frp (K := [14, 15, 16, 18, 19, 23, 26, 29, 30]) (Fa := Fa) hj9 hFF (by decide)
  have hg_0 := (hj9 14 (by decide)).trans hg_0
  have hg_1 := (hj9 15 (by decide)).trans hg_1
  have hg_2 := (hj9 16 (by decide)).trans hg_2
  have hg_3 := (hj9 13 (by decide)).trans hg_3
  have hg_5 := (hj9 19 (by decide)).trans hg_5
  have hg_6 := (hj9 23 (by decide)).trans hg_6
  have hf2 := (hj9 29 (by decide)).trans hf2
  have hf4 := hf9
  obtain ⟨zs, hzs⟩ : ∃ z : Nat, z = gc.toInt.toNat := ⟨_, rfl⟩
  have hPI0 : PI (Ra 24) (Ra 25) (Ra 27) (Ra 28) zs (F 23).toInt.toNat (F 29).toInt.toNat 0 := by rw [hg_6, hf2, ← hzs]; exact PI.start _ _ _ _ _
  refine lv_iload_n hx hb dX13_readExpression_10 rfl (lv_at hl 1 rfl) ?_
  refine lv_if_eq (tgt := 18) hx hb dX13_readExpression_11 (by decide) (fun c9 => ?_) (fun c9 => ?_)
  · have hc5 : p1.toInt = 0 := (fi_eq rfl (show (0 : Int32).toInt = 0 by decide)).mp c9
    refine lv_iconst (v := 1) hx hb dX13_readExpression_18 (by decide) ?_
    refine lv_istore_n (lv' := [(2, .int 1), (0, .ref am), (1, .int p1)]) hx hb dX13_readExpression_19 rfl hl (by decide) rfl (fun ls hl => ?_)
    have hl1082 : ∀ (N_l1082 : Nat) (v258 : Int32) (v259 : Int32) (v260 : Int32) (v261 : Int32) (v262 : Int64) (v263 : Int32) (v264 : Int32) (v265 : Int32) (H : Heap) (locs : List Loc) (F : Nat → Int32) (G : Nat → Int64) (R : Nat → Nat → Int32) (S : Nat → Nat → Int64), (v261.toInt ≤ 3) → (0 ≤ gb.toInt + (-1) * v263.toInt + 1) → (0 ≤ (-1) * p1.toInt + v261.toInt) → (0 ≤ (-1) * p1.toInt + v263.toInt) → (0 ≤ (-1) * p1.toInt + v265.toInt) → (0 ≤ v259.toInt + (-1) * v264.toInt + (-1) * v265.toInt) → (0 ≤ (-1) * gc.toInt + v264.toInt) → (0 ≤ (-1) * gf.toInt + v259.toInt) → (0 ≤ (-1) * v259.toInt + v260.toInt) → (0 ≤ gp.toInt + (-1) * v260.toInt) → (0 ≤ v258.toInt) → (v258.toInt ≤ 4) → (mz_S D cy ad am F G R S H) → (va_S (mz_W ad am) s.heap H locs) → (mz_IF false F) → (mz_IG G) → (mz_IR [] true R) → (∀ k : Nat, k ∉ ([14, 15, 16, 18, 19, 23, 26, 29, 30] : List Nat) → F k = Fa k) → (∀ k : Nat, k ∉ ([17] : List Nat) → G k = Ga k) → (∀ k : Nat, k ∉ ([24, 25, 27, 28] : List Nat) → R k = Ra k) → (F 14 = v259) → (F 15 = v260) → (F 16 = v261) → (F 13 = gp) → (G 17 = v262) → (F 19 = v263) → (F 23 = v264) → (F 29 = v265) → ((1 ≤ v261.toInt → 0 ≤ (-1) * v259.toInt + v260.toInt + (-1))) → ((27 ≤ v262.toInt → 1 ≤ v261.toInt → v261.toInt ≤ 1 → 0 ≤ (-1) * v259.toInt + v260.toInt + (-2))) → ((F 19).toInt = 0 → PT (R 24) (R 25) (R 27) (R 28) zs (F 23).toInt.toNat (F 29).toInt.toNat v258.toInt ∧ low zs (Ra 24) (R 24) ∧ low zs (Ra 25) (R 25)) → (mz_me v263.toInt v258.toInt v259.toInt < (N_l1082 : Int)) → ∀ ls : Array Slot, lv_has ls 3 [(2, .int v258), (0, .ref am), (1, .int p1)] → W p l e ({ frames := 9, cells := 0, slots := 0, locals := 560 }) s m args below meth c H locs 0 0 (MQ below (mz_w D cy ad am (fun F G R S => mz_IF false F ∧ mz_IG G ∧ mz_IR [] true R ∧ (∀ k : Nat, k ∉ ([14, 15, 16, 18, 19, 23, 26, 29, 30] : List Nat) → F k = Fa k) ∧ (∀ k : Nat, k ∉ ([24, 25, 27, 28] : List Nat) → R k = Ra k) ∧ (∀ k : Nat, k ∉ ([17] : List Nat) → G k = Ga k) ∧ 0 ≤ (-1) * (F 14).toInt + (F 15).toInt ∧ 0 ≤ gp.toInt + (-1) * (F 15).toInt ∧ (1 ≤ (F 16).toInt → 0 ≤ (-1) * (F 14).toInt + (F 15).toInt + (-1)) ∧ (27 ≤ (G 17).toInt → 1 ≤ (F 16).toInt → (F 16).toInt ≤ 1 → 0 ≤ (-1) * (F 14).toInt + (F 15).toInt + (-2)) ∧ 0 ≤ (-1) * gf.toInt + (F 14).toInt ∧ 0 ≤ (-1) * (F 23).toInt + (F 14).toInt ∧ 0 ≤ (-1) * gc.toInt + (F 23).toInt ∧ ((F 19).toInt = 0 → WFC (R 24) (R 25) gc.toInt.toNat (F 23).toInt.toNat ∧ low gc.toInt.toNat (Ra 24) (R 24) ∧ low gc.toInt.toNat (Ra 25) (R 25)))) args s 0 0 (mz_W ad am)) (F0 m 20 ls []) := by
      intro N_l1082
      induction N_l1082 with
      | zero => intro v258 v259 v260 v261 v262 v263 v264 v265 H locs F G R S hq0_l1082 hq1_l1082 hq2_l1082 hq3_l1082 hq4_l1082 hq5_l1082 hq6_l1082 hq7_l1082 hq8_l1082 hq9_l1082 hq10_l1082 hq11_l1082 hM hS hIF hIG hIR hFF hGG hRR hg_0 hg_1 hg_2 hg_3 hg_4 hg_5 hg_6 hf2 hc0_l1082 hc1_l1082 hPT hm_l1082 ls hl; exfalso; have h9 := mz_me.nn (b := v263.toInt) (t := v258.toInt) (f := v259.toInt) (by omega) (by omega); omega
      | succ N_l1082 ih_l1082 =>
        intro v258 v259 v260 v261 v262 v263 v264 v265 H locs F G R S hq0_l1082 hq1_l1082 hq2_l1082 hq3_l1082 hq4_l1082 hq5_l1082 hq6_l1082 hq7_l1082 hq8_l1082 hq9_l1082 hq10_l1082 hq11_l1082 hM hS hIF hIG hIR hFF hGG hRR hg_0 hg_1 hg_2 hg_3 hg_4 hg_5 hg_6 hf2 hc0_l1082 hc1_l1082 hPT hm_l1082 ls hl
        refine lv_aload_n hx hb dX13_readExpression_20 rfl (lv_at hl 1 rfl) ?_
        refine mz_getI hx hb htl hown hK hM 19 (Nat.le_of_ble_eq_true rfl) rfl (htl _ mw_668) (fun _ h9 => h9) dX13_readExpression_21 (fun v9 e9 => ?_)
        refine fx_ti (v := v263) (e9.symm.trans hg_5) ?_
        refine lv_if_ne (tgt := 76) hx hb dX13_readExpression_24 (by decide) (fun c9 => ?_) (fun c9 => ?_)
        · have hc1083 : ¬ (v263.toInt = 0) := fun h9 => c9 ((fi_eq rfl (show (0 : Int32).toInt = 0 by decide)).mpr h9)
          refine lv_aload_n hx hb dX13_readExpression_76 rfl (lv_at hl 1 rfl) ?_
          refine lv_iconst (v := 1) hx hb dX13_readExpression_77 (by decide) ?_
          have hk_1 : (1 : Int32).toInt = 1 := by decide
          refine mz_Vv (As := [.int 1]) (rest := []) ⟨hx, hb, hml, hown, hts⟩ hK hM hS (k_X13_settle l D cy ld ad am hD _ _ _ _ 1 v264 v265 v263 zs hIF hIG hIR hg_6 hf2 hg_5 (by omega) (by omega) (by omega) (fun h9 => absurd h9 (by omega))) ⟨callB_of 1 hts (wl_in mw_773) rfl rfl rfl (htl _ mw_5) (htl _ mw_770) hd_yX13_settle ⟨(Nat.le_of_ble_eq_true rfl), (Nat.le_of_ble_eq_true rfl)⟩, htl _ mw_771, htl _ mw_772⟩ rfl hl.1 rfl (Nat.le_of_ble_eq_true rfl) dX13_readExpression_78 ⟨(Nat.le_of_ble_eq_true rfl), (Nat.le_of_ble_eq_true rfl)⟩ (fun H locs F G R S hpo hM hS => ?_)
          obtain ⟨hIF, hIG, hIR, hfr9, hrr9, hgr9, hpo1084, hpo1085, hpo1086, hx1087, hx1088, hx1089⟩ := hpo
          have hFF := mz_fr (K := [14, 15, 16, 18, 19, 23, 26, 29, 30]) (Fa := Fa) hfr9 hFF (by decide)
          have hRR := mz_fr (K := [24, 25, 27, 28]) (Fa := Ra) hrr9 hRR (by decide)
          have hGG := mz_fr (K := [17]) (Fa := Ga) hgr9 hGG (by decide)
          have hg_0 := (hfr9 14 (by decide)).trans hg_0
          have hg_1 := (hfr9 15 (by decide)).trans hg_1
          have hg_2 := (hfr9 16 (by decide)).trans hg_2
          have hg_3 := (hfr9 13 (by decide)).trans hg_3
          have hg_4 := (hgr9 17 (by decide)).trans hg_4
          have hg_5 := (hfr9 19 (by decide)).trans hg_5
          obtain ⟨v1092, hf1091⟩ : ∃ z : Int32, F 23 = z := ⟨_, rfl⟩
          have hq_v1092 := tk_rng v1092
          rw [hf1091] at hpo1084 hpo1086
          have hr_v1092 : 0 ≤ v1092.toInt ∧ v1092.toInt ≤ 400 := hIF.at hf1091
          obtain ⟨v1094, hf1093⟩ : ∃ z : Int32, F 29 = z := ⟨_, rfl⟩
          have hq_v1094 := tk_rng v1094
          rw [hf1093] at hpo1084 hpo1085
          have hr_v1094 : 0 ≤ v1094.toInt ∧ v1094.toInt ≤ 400 := hIF.at hf1093
          exact mz_vret hx hb hr hlocks ⟨hIF, hIG, hIR, hFF, hRR, hGG, (by rw [hg_0, hg_1]; omega), (by rw [hg_1]; omega), (by rw [hg_0, hg_1, hg_2]; omega), (by rw [hg_0, hg_1, hg_2, hg_4]; omega), (by rw [hg_0]; omega), (by rw [hg_0, hf1091]; omega), (by rw [hf1091]; omega), (by rw [hg_5]; exact fun h9 => absurd h9 (by omega))⟩ hM hS dX13_readExpression_81
        · have hc1083 : v263.toInt = 0 := (fi_eq rfl (show (0 : Int32).toInt = 0 by decide)).mp c9
          refine lv_iload_n hx hb dX13_readExpression_27 rfl (lv_at hl 0 rfl) ?_
          refine lv_iconst (v := 4) hx hb dX13_readExpression_28 (by decide) ?_
          refine lv_icmp_eq (tgt := 76) hx hb dX13_readExpression_29 (by decide) (fun c9 => ?_) (fun c9 => ?_)
          · have hc1095 : v258.toInt = 4 := (fi_eq rfl (show (4 : Int32).toInt = 4 by decide)).mp c9
            refine lv_aload_n hx hb dX13_readExpression_76 rfl (lv_at hl 1 rfl) ?_
            refine lv_iconst (v := 1) hx hb dX13_readExpression_77 (by decide) ?_
            have hPT := hPT (by rw [hg_5]; omega)
            have hPTT := hPT.1.2.2 (by omega)
            have hL7 := hPT.2
            have hPT : (F 19).toInt = 0 → _ := fun _ => hPT
            rw [hf2] at hPTT
            have hk_1 : (1 : Int32).toInt = 1 := by decide
            refine mz_Vv (As := [.int 1]) (rest := []) ⟨hx, hb, hml, hown, hts⟩ hK hM hS (k_X13_settle l D cy ld ad am hD _ _ _ _ 1 v264 v265 v263 zs hIF hIG hIR hg_6 hf2 hg_5 (by omega) (by omega) (by omega) (fun h9 => by have h8 := (hPT (by rw [hg_5]; omega)).1.p (c := 1) (by rw [show v258.toInt = 4 by omega]; decide); rw [hg_6, hf2] at h8; exact h8)) ⟨callB_of 1 hts (wl_in mw_773) rfl rfl rfl (htl _ mw_5) (htl _ mw_770) hd_yX13_settle ⟨(Nat.le_of_ble_eq_true rfl), (Nat.le_of_ble_eq_true rfl)⟩, htl _ mw_771, htl _ mw_772⟩ rfl hl.1 rfl (Nat.le_of_ble_eq_true rfl) dX13_readExpression_78 ⟨(Nat.le_of_ble_eq_true rfl), (Nat.le_of_ble_eq_true rfl)⟩ (fun H locs F G R S hpo hM hS => ?_)
            obtain ⟨hIF, hIG, hIR, hfr9, hrr9, hgr9, hpo1096, hpo1097, hpo1098, hx1099, hx1100, hx1101⟩ := hpo
            have hFF := mz_fr (K := [14, 15, 16, 18, 19, 23, 26, 29, 30]) (Fa := Fa) hfr9 hFF (by decide)
            have hRR := mz_fr (K := [24, 25, 27, 28]) (Fa := Ra) hrr9 hRR (by decide)
            have hGG := mz_fr (K := [17]) (Fa := Ga) hgr9 hGG (by decide)
            have hg_0 := (hfr9 14 (by decide)).trans hg_0
            have hg_1 := (hfr9 15 (by decide)).trans hg_1
            have hg_2 := (hfr9 16 (by decide)).trans hg_2
            have hg_3 := (hfr9 13 (by decide)).trans hg_3
            have hg_4 := (hgr9 17 (by decide)).trans hg_4
            have hg_5 := (hfr9 19 (by decide)).trans hg_5
            obtain ⟨v1104, hf1103⟩ : ∃ z : Int32, F 23 = z := ⟨_, rfl⟩
            have hq_v1104 := tk_rng v1104
            rw [hf1103] at hpo1096 hpo1098
            have hr_v1104 : 0 ≤ v1104.toInt ∧ v1104.toInt ≤ 400 := hIF.at hf1103
            obtain ⟨v1106, hf1105⟩ : ∃ z : Int32, F 29 = z := ⟨_, rfl⟩
            have hq_v1106 := tk_rng v1106
            rw [hf1105] at hpo1096 hpo1097
            have hr_v1106 : 0 ≤ v1106.toInt ∧ v1106.toInt ≤ 400 := hIF.at hf1105
            have hs9 := hx1099 (by omega)
            rw [hf1103, hf1105] at hs9
            rw [hf1105] at hx1101
            have hd0 : v1106.toInt.toNat = 0 := by
              by_cases h9 : 1 ≤ v1106.toInt
              · have h8 := (hx1101 h9).1 (by decide)
                have h7 := hPTT (v1106.toInt - 1).toNat (by omega)
                omega
              · omega
            have hL8 := hL7
            exact mz_vret hx hb hr hlocks ⟨hIF, hIG, hIR, hFF, hRR, hGG, (by rw [hg_0, hg_1]; omega), (by rw [hg_1]; omega), (by rw [hg_0, hg_1, hg_2]; omega), (by rw [hg_0, hg_1, hg_2, hg_4]; omega), (by rw [hg_0]; omega), (by rw [hg_0, hf1103]; omega), (by rw [hf1103]; omega), (fun _ => ⟨by rw [hf1103, ← hzs]; exact PT.over hs9.1 hd0, by rw [← hzs]; exact hL8.1.trans hs9.2.1 (Nat.le_refl _), by rw [← hzs]; exact hL8.2.trans hs9.2.2 (Nat.le_refl _)⟩)⟩ hM hS dX13_readExpression_81
          · have hc1095 : ¬ (v258.toInt = 4) := fun h9 => c9 ((fi_eq rfl (show (4 : Int32).toInt = 4 by decide)).mpr h9)
            refine lv_iload_n hx hb dX13_readExpression_32 rfl (lv_at hl 0 rfl) ?_
            refine lv_if_ne (tgt := 43) hx hb dX13_readExpression_33 (by decide) (fun c9 => ?_) (fun c9 => ?_)
            · have hc1107 : ¬ (v258.toInt = 0) := fun h9 => c9 ((fi_eq rfl (show (0 : Int32).toInt = 0 by decide)).mpr h9)
              refine lv_iload_n hx hb dX13_readExpression_43 rfl (lv_at hl 0 rfl) ?_
              refine lv_iconst (v := 1) hx hb dX13_readExpression_44 (by decide) ?_
              refine lv_icmp_ne (tgt := 55) hx hb dX13_readExpression_45 (by decide) (fun c9 => ?_) (fun c9 => ?_)
              · have hc1108 : ¬ (v258.toInt = 1) := fun h9 => c9 ((fi_eq rfl (show (1 : Int32).toInt = 1 by decide)).mpr h9)
                refine lv_iload_n hx hb dX13_readExpression_55 rfl (lv_at hl 0 rfl) ?_
                refine lv_iconst (v := 3) hx hb dX13_readExpression_56 (by decide) ?_
                refine lv_icmp_ne (tgt := 68) hx hb dX13_readExpression_57 (by decide) (fun c9 => ?_) (fun c9 => ?_)
                · have hc1109 : ¬ (v258.toInt = 3) := fun h9 => c9 ((fi_eq rfl (show (3 : Int32).toInt = 3 by decide)).mpr h9)
                  refine lv_aload_n hx hb dX13_readExpression_68 rfl (lv_at hl 1 rfl) ?_
                  have hL9 := (hPT (by rw [hg_5]; omega)).2
                  refine mz_Vi (As := []) (rest := []) ⟨hx, hb, hml, hown, hts⟩ hK hM hS (k_X13_behindTest l D cy ld ad am hD _ _ _ _ v259 v260 v261 gp v262 v263 v264 v265 zs hIF hIG hIR hg_0 hg_1 hg_2 hg_3 hg_4 hg_5 hg_6 hf2 (by omega) (by omega) (by omega) (by omega) (by omega) (by omega) (by have h9 := (hPT (by rw [hg_5]; omega)).1; rw [hg_6, hf2, show v258.toInt = 2 by omega] at h9; exact h9)) ⟨callB_of 0 hts (wl_in mw_789) rfl rfl rfl (htl _ mw_5) (htl _ mw_786) hd_yX13_behindTest ⟨(Nat.le_of_ble_eq_true rfl), (Nat.le_of_ble_eq_true rfl)⟩, htl _ mw_787, htl _ mw_788⟩ rfl hl.1 rfl (Nat.le_of_ble_eq_true rfl) dX13_readExpression_69 ⟨(Nat.le_of_ble_eq_true rfl), (Nat.le_of_ble_eq_true rfl)⟩ (fun v1110 H locs F G R S hpo hM hS => ?_)
                  obtain ⟨hIF, hIG, hIR, hfr9, hrr9, hgr9, hpo1111, hpo1112, hpo1113, hpo1114, hpo1115, hpo1116, hpo1117, hpo1118, hpo1119, hpo1120, hx1121⟩ := hpo
                  have hq_v1110 := tk_rng v1110
                  have hFF := mz_fr (K := [14, 15, 16, 18, 19, 23, 26, 29, 30]) (Fa := Fa) hfr9 hFF (by decide)
                  have hRR := mz_fr (K := [24, 25, 27, 28]) (Fa := Ra) hrr9 hRR (by decide)
                  have hGG := mz_fr (K := [17]) (Fa := Ga) hgr9 hGG (by decide)
                  have hg_3 := (hfr9 13 (by decide)).trans hg_3
                  obtain ⟨v1124, hf1123⟩ : ∃ z : Int32, F 14 = z := ⟨_, rfl⟩
                  have hq_v1124 := tk_rng v1124
                  rw [hf1123] at hpo1111 hpo1113 hpo1114 hpo1115 hpo1116 hpo1118
                  have hr_v1124 : 0 ≤ v1124.toInt ∧ v1124.toInt ≤ 400 := hIF.at hf1123
                  obtain ⟨v1126, hf1125⟩ : ∃ z : Int32, F 15 = z := ⟨_, rfl⟩
                  have hq_v1126 := tk_rng v1126
                  rw [hf1125] at hpo1111 hpo1112 hpo1113 hpo1114
                  have hr_v1126 : 0 ≤ v1126.toInt ∧ v1126.toInt ≤ 400 := hIF.at hf1125
                  obtain ⟨v1128, hf1127⟩ : ∃ z : Int32, F 16 = z := ⟨_, rfl⟩
                  have hq_v1128 := tk_rng v1128
                  rw [hf1127] at hpo1113 hpo1114
                  have hr_v1128 : 0 ≤ v1128.toInt ∧ v1128.toInt ≤ 3 := hIF.at hf1127
                  obtain ⟨w1130, hf1129⟩ : ∃ z : Int64, G 17 = z := ⟨_, rfl⟩
                  have hq_w1130 := tk_rngL w1130
                  rw [hf1129] at hpo1114
                  obtain ⟨v1132, hf1131⟩ : ∃ z : Int32, F 19 = z := ⟨_, rfl⟩
                  have hq_v1132 := tk_rng v1132
                  rw [hf1131] at hpo1118
                  have hr_v1132 : 0 ≤ v1132.toInt ∧ v1132.toInt ≤ 1 := hIF.at hf1131
                  obtain ⟨v1134, hf1133⟩ : ∃ z : Int32, F 23 = z := ⟨_, rfl⟩
                  have hq_v1134 := tk_rng v1134
                  rw [hf1133] at hpo1116 hpo1117
                  have hr_v1134 : 0 ≤ v1134.toInt ∧ v1134.toInt ≤ 400 := hIF.at hf1133
                  obtain ⟨v1136, hf1135⟩ : ∃ z : Int32, F 29 = z := ⟨_, rfl⟩
                  have hq_v1136 := tk_rng v1136
                  rw [hf1135] at hpo1116
                  have hr_v1136 : 0 ≤ v1136.toInt ∧ v1136.toInt ≤ 400 := hIF.at hf1135
                  have hPT : (F 19).toInt = 0 → PT (R 24) (R 25) (R 27) (R 28) zs (F 23).toInt.toNat (F 29).toInt.toNat v1110.toInt ∧ low zs (Ra 24) (R 24) ∧ low zs (Ra 25) (R 25) := fun h9 => ⟨(hx1121 h9).1, hL9.1.trans (hx1121 h9).2.1 (Nat.le_refl _), hL9.2.trans (hx1121 h9).2.2 (Nat.le_refl _)⟩
                  refine lv_istore_n (lv' := [(2, .int v1110), (0, .ref am), (1, .int p1)]) hx hb dX13_readExpression_72 rfl hl (by decide) rfl (fun ls hl => ?_)
                  refine lv_goto (tgt := 20) hx hb dX13_readExpression_73 (by decide) ?_
                  exact ih_l1082 v1110 v1124 v1126 v1128 w1130 v1132 v1134 v1136 _ _ _ _ _ _ (by omega) (by omega) (by omega) (by omega) (by omega) (by omega) (by omega) (by omega) (by omega) (by omega) (by omega) (by omega) hM hS hIF hIG hIR hFF hGG hRR hf1123 hf1125 hf1127 hg_3 hf1129 hf1131 hf1133 hf1135 (by omega) (by omega) hPT (mz_me.lt hm_l1082 (by omega) (by omega) (by omega) (by omega) (by omega)) _ (lv_sub hl [0, 1, 2] rfl)
                · have hc1109 : v258.toInt = 3 := (fi_eq rfl (show (3 : Int32).toInt = 3 by decide)).mp c9
                  refine lv_aload_n hx hb dX13_readExpression_60 rfl (lv_at hl 1 rfl) ?_
                  refine lv_iload_n hx hb dX13_readExpression_61 rfl (lv_at hl 2 rfl) ?_
                  have hL9 := (hPT (by rw [hg_5]; omega)).2
                  refine mz_Vi (As := [.int p1]) (rest := []) ⟨hx, hb, hml, hown, hts⟩ hK hM hS (k_X13_behindSum l D cy ld ad am hD _ _ _ _ p1 v259 v260 v261 gp v262 v263 v264 v265 zs hIF hIG hIR hg_0 hg_1 hg_2 hg_3 hg_4 hg_5 hg_6 hf2 (by omega) (by omega) (by omega) (by omega) (by omega) (by omega) (by omega) (by omega) (by have h9 := (hPT (by rw [hg_5]; omega)).1; rw [hg_6, hf2, show v258.toInt = 3 by omega] at h9; exact h9)) ⟨callB_of 1 hts (wl_in mw_766) rfl rfl rfl (htl _ mw_5) (htl _ mw_763) hd_yX13_behindSum ⟨(Nat.le_of_ble_eq_true rfl), (Nat.le_of_ble_eq_true rfl)⟩, htl _ mw_764, htl _ mw_765⟩ rfl hl.1 rfl (Nat.le_of_ble_eq_true rfl) dX13_readExpression_62 ⟨(Nat.le_of_ble_eq_true rfl), (Nat.le_of_ble_eq_true rfl)⟩ (fun v1137 H locs F G R S hpo hM hS => ?_)
                  obtain ⟨hIF, hIG, hIR, hfr9, hrr9, hgr9, hpo1138, hpo1139, hpo1140, hpo1141, hpo1142, hpo1143, hpo1144, hpo1145, hpo1146, hpo1147, hpo1148, hx1149⟩ := hpo
                  have hq_v1137 := tk_rng v1137
                  have hFF := mz_fr (K := [14, 15, 16, 18, 19, 23, 26, 29, 30]) (Fa := Fa) hfr9 hFF (by decide)
                  have hRR := mz_fr (K := [24, 25, 27, 28]) (Fa := Ra) hrr9 hRR (by decide)
                  have hGG := mz_fr (K := [17]) (Fa := Ga) hgr9 hGG (by decide)
                  have hg_3 := (hfr9 13 (by decide)).trans hg_3
                  obtain ⟨v1152, hf1151⟩ : ∃ z : Int32, F 14 = z := ⟨_, rfl⟩
                  have hq_v1152 := tk_rng v1152
                  rw [hf1151] at hpo1138 hpo1140 hpo1141 hpo1142 hpo1143 hpo1145 hpo1146
                  have hr_v1152 : 0 ≤ v1152.toInt ∧ v1152.toInt ≤ 400 := hIF.at hf1151
                  obtain ⟨v1154, hf1153⟩ : ∃ z : Int32, F 15 = z := ⟨_, rfl⟩
                  have hq_v1154 := tk_rng v1154
                  rw [hf1153] at hpo1138 hpo1139 hpo1140 hpo1141
                  have hr_v1154 : 0 ≤ v1154.toInt ∧ v1154.toInt ≤ 400 := hIF.at hf1153
                  obtain ⟨v1156, hf1155⟩ : ∃ z : Int32, F 16 = z := ⟨_, rfl⟩
                  have hq_v1156 := tk_rng v1156
                  rw [hf1155] at hpo1140 hpo1141
                  have hr_v1156 : 0 ≤ v1156.toInt ∧ v1156.toInt ≤ 3 := hIF.at hf1155
                  obtain ⟨w1158, hf1157⟩ : ∃ z : Int64, G 17 = z := ⟨_, rfl⟩
                  have hq_w1158 := tk_rngL w1158
                  rw [hf1157] at hpo1141
                  obtain ⟨v1160, hf1159⟩ : ∃ z : Int32, F 19 = z := ⟨_, rfl⟩
                  have hq_v1160 := tk_rng v1160
                  rw [hf1159] at hpo1145 hpo1146
                  have hr_v1160 : 0 ≤ v1160.toInt ∧ v1160.toInt ≤ 1 := hIF.at hf1159
                  obtain ⟨v1162, hf1161⟩ : ∃ z : Int32, F 23 = z := ⟨_, rfl⟩
                  have hq_v1162 := tk_rng v1162
                  rw [hf1161] at hpo1143 hpo1144
                  have hr_v1162 : 0 ≤ v1162.toInt ∧ v1162.toInt ≤ 400 := hIF.at hf1161
                  obtain ⟨v1164, hf1163⟩ : ∃ z : Int32, F 29 = z := ⟨_, rfl⟩
                  have hq_v1164 := tk_rng v1164
                  rw [hf1163] at hpo1143
                  have hr_v1164 : 0 ≤ v1164.toInt ∧ v1164.toInt ≤ 400 := hIF.at hf1163
                  have hPT : (F 19).toInt = 0 → PT (R 24) (R 25) (R 27) (R 28) zs (F 23).toInt.toNat (F 29).toInt.toNat v1137.toInt ∧ low zs (Ra 24) (R 24) ∧ low zs (Ra 25) (R 25) := fun h9 => ⟨(hx1149 h9).1, hL9.1.trans (hx1149 h9).2.1 (Nat.le_refl _), hL9.2.trans (hx1149 h9).2.2 (Nat.le_refl _)⟩
                  refine lv_goto (tgt := 72) hx hb dX13_readExpression_65 (by decide) ?_
                  refine lv_istore_n (lv' := [(2, .int v1137), (0, .ref am), (1, .int p1)]) hx hb dX13_readExpression_72 rfl hl (by decide) rfl (fun ls hl => ?_)
                  refine lv_goto (tgt := 20) hx hb dX13_readExpression_73 (by decide) ?_
                  exact ih_l1082 v1137 v1152 v1154 v1156 w1158 v1160 v1162 v1164 _ _ _ _ _ _ (by omega) (by omega) (by omega) (by omega) (by omega) (by omega) (by omega) (by omega) (by omega) (by omega) (by omega) (by omega) hM hS hIF hIG hIR hFF hGG hRR hf1151 hf1153 hf1155 hg_3 hf1157 hf1159 hf1161 hf1163 (by omega) (by omega) hPT (mz_me.lt hm_l1082 (by omega) (by omega) (by omega) (by omega) (by omega)) _ (lv_sub hl [0, 1, 2] rfl)
              · have hc1108 : v258.toInt = 1 := (fi_eq rfl (show (1 : Int32).toInt = 1 by decide)).mp c9
                refine lv_aload_n hx hb dX13_readExpression_48 rfl (lv_at hl 1 rfl) ?_
                have hL9 := (hPT (by rw [hg_5]; omega)).2
                refine mz_Vi (As := []) (rest := []) ⟨hx, hb, hml, hown, hts⟩ hK hM hS (k_X13_readPart l D cy ld ad am hD _ _ _ _ v259 v260 v261 gp v262 v263 v264 v265 zs hIF hIG hIR hg_0 hg_1 hg_2 hg_3 hg_4 hg_5 hg_6 hf2 (by omega) (by omega) (by omega) (by omega) (by omega) (by omega) hPI) ⟨callB_of 0 hts (wl_in mw_740) rfl rfl rfl (htl _ mw_5) (htl _ mw_737) hd_yX13_readPart ⟨(Nat.le_of_ble_eq_true rfl), (Nat.le_of_ble_eq_true rfl)⟩, htl _ mw_738, htl _ mw_739⟩ rfl hl.1 rfl (Nat.le_of_ble_eq_true rfl) dX13_readExpression_49 ⟨(Nat.le_of_ble_eq_true rfl), (Nat.le_of_ble_eq_true rfl)⟩ (fun v1165 H locs F G R S hpo hM hS => ?_)
                obtain ⟨hIF, hIG, hIR, hfr9, hrr9, hgr9, hpo1166, hpo1167, hpo1168, hpo1169, hpo1170, hpo1171, hpo1172, hpo1173, hpo1174, hpo1175, hx1176⟩ := hpo
                have hq_v1165 := tk_rng v1165
                have hFF := mz_fr (K := [14, 15, 16, 18, 19, 23, 26, 29, 30]) (Fa := Fa) hfr9 hFF (by decide)
                have hRR := mz_fr (K := [24, 25, 27, 28]) (Fa := Ra) hrr9 hRR (by decide)
                have hGG := mz_fr (K := [17]) (Fa := Ga) hgr9 hGG (by decide)
                have hg_3 := (hfr9 13 (by decide)).trans hg_3
                obtain ⟨v1179, hf1178⟩ : ∃ z : Int32, F 14 = z := ⟨_, rfl⟩
                have hq_v1179 := tk_rng v1179
                rw [hf1178] at hpo1166 hpo1168 hpo1169 hpo1170 hpo1171 hpo1173
                have hr_v1179 : 0 ≤ v1179.toInt ∧ v1179.toInt ≤ 400 := hIF.at hf1178
                obtain ⟨v1181, hf1180⟩ : ∃ z : Int32, F 15 = z := ⟨_, rfl⟩
                have hq_v1181 := tk_rng v1181
                rw [hf1180] at hpo1166 hpo1167 hpo1168 hpo1169
                have hr_v1181 : 0 ≤ v1181.toInt ∧ v1181.toInt ≤ 400 := hIF.at hf1180
                obtain ⟨v1183, hf1182⟩ : ∃ z : Int32, F 16 = z := ⟨_, rfl⟩
                have hq_v1183 := tk_rng v1183
                rw [hf1182] at hpo1168 hpo1169
                have hr_v1183 : 0 ≤ v1183.toInt ∧ v1183.toInt ≤ 3 := hIF.at hf1182
                obtain ⟨w1185, hf1184⟩ : ∃ z : Int64, G 17 = z := ⟨_, rfl⟩
                have hq_w1185 := tk_rngL w1185
                rw [hf1184] at hpo1169
                obtain ⟨v1187, hf1186⟩ : ∃ z : Int32, F 19 = z := ⟨_, rfl⟩
                have hq_v1187 := tk_rng v1187
                rw [hf1186] at hpo1173
                have hr_v1187 : 0 ≤ v1187.toInt ∧ v1187.toInt ≤ 1 := hIF.at hf1186
                obtain ⟨v1189, hf1188⟩ : ∃ z : Int32, F 23 = z := ⟨_, rfl⟩
                have hq_v1189 := tk_rng v1189
                rw [hf1188] at hpo1171 hpo1172
                have hr_v1189 : 0 ≤ v1189.toInt ∧ v1189.toInt ≤ 400 := hIF.at hf1188
                obtain ⟨v1191, hf1190⟩ : ∃ z : Int32, F 29 = z := ⟨_, rfl⟩
                have hq_v1191 := tk_rng v1191
                rw [hf1190] at hpo1171
                have hr_v1191 : 0 ≤ v1191.toInt ∧ v1191.toInt ≤ 400 := hIF.at hf1190
                have hPT : (F 19).toInt = 0 → PT (R 24) (R 25) (R 27) (R 28) zs (F 23).toInt.toNat (F 29).toInt.toNat v1165.toInt ∧ low zs (Ra 24) (R 24) ∧ low zs (Ra 25) (R 25) := fun h9 => ⟨(hx1176 h9).1, hL9.1.trans (hx1176 h9).2.1 (Nat.le_refl _), hL9.2.trans (hx1176 h9).2.2 (Nat.le_refl _)⟩
                refine lv_goto (tgt := 72) hx hb dX13_readExpression_52 (by decide) ?_
                refine lv_istore_n (lv' := [(2, .int v1165), (0, .ref am), (1, .int p1)]) hx hb dX13_readExpression_72 rfl hl (by decide) rfl (fun ls hl => ?_)
                refine lv_goto (tgt := 20) hx hb dX13_readExpression_73 (by decide) ?_
                exact ih_l1082 v1165 v1179 v1181 v1183 w1185 v1187 v1189 v1191 _ _ _ _ _ _ (by omega) (by omega) (by omega) (by omega) (by omega) (by omega) (by omega) (by omega) (by omega) (by omega) (by omega) (by omega) hM hS hIF hIG hIR hFF hGG hRR hf1178 hf1180 hf1182 hg_3 hf1184 hf1186 hf1188 hf1190 (by omega) (by omega) hPT (mz_me.lt hm_l1082 (by omega) (by omega) (by omega) (by omega) (by omega)) _ (lv_sub hl [0, 1, 2] rfl)
            · have hc1107 : v258.toInt = 0 := (fi_eq rfl (show (0 : Int32).toInt = 0 by decide)).mp c9
              refine lv_aload_n hx hb dX13_readExpression_36 rfl (lv_at hl 1 rfl) ?_
              have hL9 := (hPT (by rw [hg_5]; omega)).2
              refine mz_Vi (As := []) (rest := []) ⟨hx, hb, hml, hown, hts⟩ hK hM hS (k_X13_readPlain l D cy ld ad am hD _ _ _ _ v259 v260 v261 gp v262 v263 v264 v265 zs hIF hIG hIR hg_0 hg_1 hg_2 hg_3 hg_4 hg_5 hg_6 hf2 (by omega) (by omega) (by omega) (by omega) (by omega) (by omega) (by have h9 := (hPT (by rw [hg_5]; omega)).1; rw [hg_6, hf2, show v258.toInt = 0 by omega] at h9; exact h9)) ⟨callB_of 0 hts (wl_in mw_723) rfl rfl rfl (htl _ mw_5) (htl _ mw_720) hd_yX13_readPlain ⟨(Nat.le_of_ble_eq_true rfl), (Nat.le_of_ble_eq_true rfl)⟩, htl _ mw_721, htl _ mw_722⟩ rfl hl.1 rfl (Nat.le_of_ble_eq_true rfl) dX13_readExpression_37 ⟨(Nat.le_of_ble_eq_true rfl), (Nat.le_of_ble_eq_true rfl)⟩ (fun v1192 H locs F G R S hpo hM hS => ?_)
              obtain ⟨hIF, hIG, hIR, hfr9, hrr9, hgr9, hpo1193, hpo1194, hpo1195, hpo1196, hpo1197, hpo1198, hpo1199, hpo1200, hpo1201, hpo1202, hx1203⟩ := hpo
              have hq_v1192 := tk_rng v1192
              have hFF := mz_fr (K := [14, 15, 16, 18, 19, 23, 26, 29, 30]) (Fa := Fa) hfr9 hFF (by decide)
              have hRR := mz_fr (K := [24, 25, 27, 28]) (Fa := Ra) hrr9 hRR (by decide)
              have hGG := mz_fr (K := [17]) (Fa := Ga) hgr9 hGG (by decide)
              have hg_3 := (hfr9 13 (by decide)).trans hg_3
              obtain ⟨v1206, hf1205⟩ : ∃ z : Int32, F 14 = z := ⟨_, rfl⟩
              have hq_v1206 := tk_rng v1206
              rw [hf1205] at hpo1193 hpo1195 hpo1196 hpo1197 hpo1198 hpo1200
              have hr_v1206 : 0 ≤ v1206.toInt ∧ v1206.toInt ≤ 400 := hIF.at hf1205
              obtain ⟨v1208, hf1207⟩ : ∃ z : Int32, F 15 = z := ⟨_, rfl⟩
              have hq_v1208 := tk_rng v1208
              rw [hf1207] at hpo1193 hpo1194 hpo1195 hpo1196
              have hr_v1208 : 0 ≤ v1208.toInt ∧ v1208.toInt ≤ 400 := hIF.at hf1207
              obtain ⟨v1210, hf1209⟩ : ∃ z : Int32, F 16 = z := ⟨_, rfl⟩
              have hq_v1210 := tk_rng v1210
              rw [hf1209] at hpo1195 hpo1196
              have hr_v1210 : 0 ≤ v1210.toInt ∧ v1210.toInt ≤ 3 := hIF.at hf1209
              obtain ⟨w1212, hf1211⟩ : ∃ z : Int64, G 17 = z := ⟨_, rfl⟩
              have hq_w1212 := tk_rngL w1212
              rw [hf1211] at hpo1196
              obtain ⟨v1214, hf1213⟩ : ∃ z : Int32, F 19 = z := ⟨_, rfl⟩
              have hq_v1214 := tk_rng v1214
              rw [hf1213] at hpo1200
              have hr_v1214 : 0 ≤ v1214.toInt ∧ v1214.toInt ≤ 1 := hIF.at hf1213
              obtain ⟨v1216, hf1215⟩ : ∃ z : Int32, F 23 = z := ⟨_, rfl⟩
              have hq_v1216 := tk_rng v1216
              rw [hf1215] at hpo1198 hpo1199
              have hr_v1216 : 0 ≤ v1216.toInt ∧ v1216.toInt ≤ 400 := hIF.at hf1215
              obtain ⟨v1218, hf1217⟩ : ∃ z : Int32, F 29 = z := ⟨_, rfl⟩
              have hq_v1218 := tk_rng v1218
              rw [hf1217] at hpo1198
              have hr_v1218 : 0 ≤ v1218.toInt ∧ v1218.toInt ≤ 400 := hIF.at hf1217
              have hPT : (F 19).toInt = 0 → PT (R 24) (R 25) (R 27) (R 28) zs (F 23).toInt.toNat (F 29).toInt.toNat v1192.toInt ∧ low zs (Ra 24) (R 24) ∧ low zs (Ra 25) (R 25) := fun h9 => ⟨(hx1203 h9).1, hL9.1.trans (hx1203 h9).2.1 (Nat.le_refl _), hL9.2.trans (hx1203 h9).2.2 (Nat.le_refl _)⟩
              refine lv_goto (tgt := 72) hx hb dX13_readExpression_40 (by decide) ?_
              refine lv_istore_n (lv' := [(2, .int v1192), (0, .ref am), (1, .int p1)]) hx hb dX13_readExpression_72 rfl hl (by decide) rfl (fun ls hl => ?_)
              refine lv_goto (tgt := 20) hx hb dX13_readExpression_73 (by decide) ?_
              exact ih_l1082 v1192 v1206 v1208 v1210 w1212 v1214 v1216 v1218 _ _ _ _ _ _ (by omega) (by omega) (by omega) (by omega) (by omega) (by omega) (by omega) (by omega) (by omega) (by omega) (by omega) (by omega) hM hS hIF hIG hIR hFF hGG hRR hf1205 hf1207 hf1209 hg_3 hf1211 hf1213 hf1215 hf1217 (by omega) (by omega) hPT (mz_me.lt hm_l1082 (by omega) (by omega) (by omega) (by omega) (by omega)) _ (lv_sub hl [0, 1, 2] rfl)
    have hk_1 : (1 : Int32).toInt = 1 := by decide
    have hk_0 : (0 : Int32).toInt = 0 := by decide
    have hk_1 : (1 : Int32).toInt = 1 := by decide
    exact hl1082 2011 1 gf gt gs gw gb gc 0 _ _ _ _ _ _ (by omega) (by omega) (by omega) (by omega) (by omega) (by omega) (by omega) (by omega) (by omega) (by omega) (by omega) (by omega) hM hS hIF hIG hIR hFF (fun _ _ => rfl) (fun _ _ => rfl) hg_0 hg_1 hg_2 hg_3 hg_4 hg_5 hg_6 hf2 (by omega) (by omega) (fun _ => ⟨PT.mk hPI0 (by decide) (fun _ i h9 => absurd h9 (by rw [show (F 29).toInt = 0 by rw [hf2]; decide]; exact Nat.not_lt_zero _)) (fun h9 => absurd h9 (by decide)) rfl rfl rfl rfl rfl rfl, low.refl _ _, low.refl _ _⟩) (mz_me.le (by omega) (by omega)) _ (lv_sub hl [0, 1, 2] rfl)
  · have hc5 : ¬ (p1.toInt = 0) := fun h9 => c9 ((fi_eq rfl (show (0 : Int32).toInt = 0 by decide)).mpr h9)
    refine lv_iconst (v := 0) hx hb dX13_readExpression_14 (by decide) ?_
    refine lv_goto (tgt := 19) hx hb dX13_readExpression_15 (by decide) ?_
    refine lv_istore_n (lv' := [(2, .int 0), (0, .ref am), (1, .int p1)]) hx hb dX13_readExpression_19 rfl hl (by decide) rfl (fun ls hl => ?_)
    have hl1636 : ∀ (N_l1636 : Nat) (v1219 : Int32) (v1220 : Int32) (v1221 : Int32) (v1222 : Int32) (v1223 : Int64) (v1224 : Int32) (v1225 : Int32) (v1226 : Int32) (H : Heap) (locs : List Loc) (F : Nat → Int32) (G : Nat → Int64) (R : Nat → Nat → Int32) (S : Nat → Nat → Int64), (v1222.toInt ≤ 3) → (0 ≤ gb.toInt + (-1) * v1224.toInt + 1) → (0 ≤ v1220.toInt + (-1) * v1225.toInt + (-1) * v1226.toInt) → (0 ≤ (-1) * gc.toInt + v1225.toInt) → (0 ≤ (-1) * gf.toInt + v1220.toInt) → (0 ≤ (-1) * v1220.toInt + v1221.toInt) → (0 ≤ gp.toInt + (-1) * v1221.toInt) → (0 ≤ v1219.toInt) → (v1219.toInt ≤ 4) → (mz_S D cy ad am F G R S H) → (va_S (mz_W ad am) s.heap H locs) → (mz_IF false F) → (mz_IG G) → (mz_IR [] true R) → (∀ k : Nat, k ∉ ([14, 15, 16, 18, 19, 23, 26, 29, 30] : List Nat) → F k = Fa k) → (∀ k : Nat, k ∉ ([17] : List Nat) → G k = Ga k) → (∀ k : Nat, k ∉ ([24, 25, 27, 28] : List Nat) → R k = Ra k) → (F 14 = v1220) → (F 15 = v1221) → (F 16 = v1222) → (F 13 = gp) → (G 17 = v1223) → (F 19 = v1224) → (F 23 = v1225) → (F 29 = v1226) → ((1 ≤ v1222.toInt → 0 ≤ (-1) * v1220.toInt + v1221.toInt + (-1))) → ((27 ≤ v1223.toInt → 1 ≤ v1222.toInt → v1222.toInt ≤ 1 → 0 ≤ (-1) * v1220.toInt + v1221.toInt + (-2))) → ((F 19).toInt = 0 → PT (R 24) (R 25) (R 27) (R 28) zs (F 23).toInt.toNat (F 29).toInt.toNat v1219.toInt ∧ low zs (Ra 24) (R 24) ∧ low zs (Ra 25) (R 25)) → (mz_me v1224.toInt v1219.toInt v1220.toInt < (N_l1636 : Int)) → ∀ ls : Array Slot, lv_has ls 3 [(2, .int v1219), (0, .ref am), (1, .int p1)] → W p l e ({ frames := 9, cells := 0, slots := 0, locals := 560 }) s m args below meth c H locs 0 0 (MQ below (mz_w D cy ad am (fun F G R S => mz_IF false F ∧ mz_IG G ∧ mz_IR [] true R ∧ (∀ k : Nat, k ∉ ([14, 15, 16, 18, 19, 23, 26, 29, 30] : List Nat) → F k = Fa k) ∧ (∀ k : Nat, k ∉ ([24, 25, 27, 28] : List Nat) → R k = Ra k) ∧ (∀ k : Nat, k ∉ ([17] : List Nat) → G k = Ga k) ∧ 0 ≤ (-1) * (F 14).toInt + (F 15).toInt ∧ 0 ≤ gp.toInt + (-1) * (F 15).toInt ∧ (1 ≤ (F 16).toInt → 0 ≤ (-1) * (F 14).toInt + (F 15).toInt + (-1)) ∧ (27 ≤ (G 17).toInt → 1 ≤ (F 16).toInt → (F 16).toInt ≤ 1 → 0 ≤ (-1) * (F 14).toInt + (F 15).toInt + (-2)) ∧ 0 ≤ (-1) * gf.toInt + (F 14).toInt ∧ 0 ≤ (-1) * (F 23).toInt + (F 14).toInt ∧ 0 ≤ (-1) * gc.toInt + (F 23).toInt ∧ ((F 19).toInt = 0 → WFC (R 24) (R 25) gc.toInt.toNat (F 23).toInt.toNat ∧ low gc.toInt.toNat (Ra 24) (R 24) ∧ low gc.toInt.toNat (Ra 25) (R 25)))) args s 0 0 (mz_W ad am)) (F0 m 20 ls []) := by
      intro N_l1636
      induction N_l1636 with
      | zero => intro v1219 v1220 v1221 v1222 v1223 v1224 v1225 v1226 H locs F G R S hq0_l1636 hq1_l1636 hq2_l1636 hq3_l1636 hq4_l1636 hq5_l1636 hq6_l1636 hq7_l1636 hq8_l1636 hM hS hIF hIG hIR hFF hGG hRR hg_0 hg_1 hg_2 hg_3 hg_4 hg_5 hg_6 hf2 hc0_l1636 hc1_l1636 hPT hm_l1636 ls hl; exfalso; have h9 := mz_me.nn (b := v1224.toInt) (t := v1219.toInt) (f := v1220.toInt) (by omega) (by omega); omega
      | succ N_l1636 ih_l1636 =>
        intro v1219 v1220 v1221 v1222 v1223 v1224 v1225 v1226 H locs F G R S hq0_l1636 hq1_l1636 hq2_l1636 hq3_l1636 hq4_l1636 hq5_l1636 hq6_l1636 hq7_l1636 hq8_l1636 hM hS hIF hIG hIR hFF hGG hRR hg_0 hg_1 hg_2 hg_3 hg_4 hg_5 hg_6 hf2 hc0_l1636 hc1_l1636 hPT hm_l1636 ls hl
        refine lv_aload_n hx hb dX13_readExpression_20 rfl (lv_at hl 1 rfl) ?_
        refine mz_getI hx hb htl hown hK hM 19 (Nat.le_of_ble_eq_true rfl) rfl (htl _ mw_668) (fun _ h9 => h9) dX13_readExpression_21 (fun v9 e9 => ?_)
        refine fx_ti (v := v1224) (e9.symm.trans hg_5) ?_
        refine lv_if_ne (tgt := 76) hx hb dX13_readExpression_24 (by decide) (fun c9 => ?_) (fun c9 => ?_)
        · have hc1637 : ¬ (v1224.toInt = 0) := fun h9 => c9 ((fi_eq rfl (show (0 : Int32).toInt = 0 by decide)).mpr h9)
          refine lv_aload_n hx hb dX13_readExpression_76 rfl (lv_at hl 1 rfl) ?_
          refine lv_iconst (v := 1) hx hb dX13_readExpression_77 (by decide) ?_
          have hPT := hPT (by rw [hg_5]; omega)
          have hPTT := hPT.1.2.2 (by omega)
          have hL7 := hPT.2
          have hPT : (F 19).toInt = 0 → _ := fun _ => hPT
          rw [hf2] at hPTT
          have hk_1 : (1 : Int32).toInt = 1 := by decide
          refine mz_Vv (As := [.int 1]) (rest := []) ⟨hx, hb, hml, hown, hts⟩ hK hM hS (k_X13_settle l D cy ld ad am hD _ _ _ _ 1 v1225 v1226 v1224 zs hIF hIG hIR hg_6 hf2 hg_5 (by omega) (by omega) (by omega) (fun h9 => by have h8 := (hPT (by rw [hg_5]; omega)).1.p (c := 1) (by rw [show v1219.toInt = 4 by omega]; decide); rw [hg_6, hf2] at h8; exact h8)) ⟨callB_of 1 hts (wl_in mw_773) rfl rfl rfl (htl _ mw_5) (htl _ mw_770) hd_yX13_settle ⟨(Nat.le_of_ble_eq_true rfl), (Nat.le_of_ble_eq_true rfl)⟩, htl _ mw_771, htl _ mw_772⟩ rfl hl.1 rfl (Nat.le_of_ble_eq_true rfl) dX13_readExpression_78 ⟨(Nat.le_of_ble_eq_true rfl), (Nat.le_of_ble_eq_true rfl)⟩ (fun H locs F G R S hpo hM hS => ?_)
          obtain ⟨hIF, hIG, hIR, hfr9, hrr9, hgr9, hpo1638, hpo1639, hpo1640, hx1641, hx1642, hx1643⟩ := hpo
          have hFF := mz_fr (K := [14, 15, 16, 18, 19, 23, 26, 29, 30]) (Fa := Fa) hfr9 hFF (by decide)
          have hRR := mz_fr (K := [24, 25, 27, 28]) (Fa := Ra) hrr9 hRR (by decide)
          have hGG := mz_fr (K := [17]) (Fa := Ga) hgr9 hGG (by decide)
          have hg_0 := (hfr9 14 (by decide)).trans hg_0
          have hg_1 := (hfr9 15 (by decide)).trans hg_1
          have hg_2 := (hfr9 16 (by decide)).trans hg_2
          have hg_3 := (hfr9 13 (by decide)).trans hg_3
          have hg_4 := (hgr9 17 (by decide)).trans hg_4
          have hg_5 := (hfr9 19 (by decide)).trans hg_5
          obtain ⟨v1646, hf1645⟩ : ∃ z : Int32, F 23 = z := ⟨_, rfl⟩
          have hq_v1646 := tk_rng v1646
          rw [hf1645] at hpo1638 hpo1640
          have hr_v1646 : 0 ≤ v1646.toInt ∧ v1646.toInt ≤ 400 := hIF.at hf1645
          obtain ⟨v1648, hf1647⟩ : ∃ z : Int32, F 29 = z := ⟨_, rfl⟩
          have hq_v1648 := tk_rng v1648
          rw [hf1647] at hpo1638 hpo1639
          have hr_v1648 : 0 ≤ v1648.toInt ∧ v1648.toInt ≤ 400 := hIF.at hf1647
          have hs9 := hx1641 (by omega)
          rw [hf1645, hf1647] at hs9
          rw [hf1647] at hx1643
          have hd0 : v1648.toInt.toNat = 0 := by
            by_cases h9 : 1 ≤ v1648.toInt
            · have h8 := (hx1643 h9).1 (by decide)
              have h7 := hPTT (v1648.toInt - 1).toNat (by omega)
              omega
            · omega
          have hL8 := hL7
          exact mz_vret hx hb hr hlocks ⟨hIF, hIG, hIR, hFF, hRR, hGG, (by rw [hg_0, hg_1]; omega), (by rw [hg_1]; omega), (by rw [hg_0, hg_1, hg_2]; omega), (by rw [hg_0, hg_1, hg_2, hg_4]; omega), (by rw [hg_0]; omega), (by rw [hg_0, hf1645]; omega), (by rw [hf1645]; omega), (fun _ => ⟨by rw [hf1645, ← hzs]; exact PT.over hs9.1 hd0, by rw [← hzs]; exact hL8.1.trans hs9.2.1 (Nat.le_refl _), by rw [← hzs]; exact hL8.2.trans hs9.2.2 (Nat.le_refl _)⟩)⟩ hM hS dX13_readExpression_81
        · have hc1637 : v1224.toInt = 0 := (fi_eq rfl (show (0 : Int32).toInt = 0 by decide)).mp c9
          refine lv_iload_n hx hb dX13_readExpression_27 rfl (lv_at hl 0 rfl) ?_
          refine lv_iconst (v := 4) hx hb dX13_readExpression_28 (by decide) ?_
          refine lv_icmp_eq (tgt := 76) hx hb dX13_readExpression_29 (by decide) (fun c9 => ?_) (fun c9 => ?_)
          · have hc1649 : v1219.toInt = 4 := (fi_eq rfl (show (4 : Int32).toInt = 4 by decide)).mp c9
            refine lv_aload_n hx hb dX13_readExpression_76 rfl (lv_at hl 1 rfl) ?_
            refine lv_iconst (v := 1) hx hb dX13_readExpression_77 (by decide) ?_
            have hPT := hPT (by rw [hg_5]; omega)
            have hPTT := hPT.1.2.2 (by omega)
            have hL7 := hPT.2
            have hPT : (F 19).toInt = 0 → _ := fun _ => hPT
            rw [hf2] at hPTT
            have hk_1 : (1 : Int32).toInt = 1 := by decide
            refine mz_Vv (As := [.int 1]) (rest := []) ⟨hx, hb, hml, hown, hts⟩ hK hM hS (k_X13_settle l D cy ld ad am hD _ _ _ _ 1 v1225 v1226 v1224 zs hIF hIG hIR hg_6 hf2 hg_5 (by omega) (by omega) (by omega) (fun h9 => by have h8 := (hPT (by rw [hg_5]; omega)).1.p (c := 1) (by rw [show v1219.toInt = 4 by omega]; decide); rw [hg_6, hf2] at h8; exact h8)) ⟨callB_of 1 hts (wl_in mw_773) rfl rfl rfl (htl _ mw_5) (htl _ mw_770) hd_yX13_settle ⟨(Nat.le_of_ble_eq_true rfl), (Nat.le_of_ble_eq_true rfl)⟩, htl _ mw_771, htl _ mw_772⟩ rfl hl.1 rfl (Nat.le_of_ble_eq_true rfl) dX13_readExpression_78 ⟨(Nat.le_of_ble_eq_true rfl), (Nat.le_of_ble_eq_true rfl)⟩ (fun H locs F G R S hpo hM hS => ?_)
            obtain ⟨hIF, hIG, hIR, hfr9, hrr9, hgr9, hpo1650, hpo1651, hpo1652, hx1653, hx1654, hx1655⟩ := hpo
            have hFF := mz_fr (K := [14, 15, 16, 18, 19, 23, 26, 29, 30]) (Fa := Fa) hfr9 hFF (by decide)
            have hRR := mz_fr (K := [24, 25, 27, 28]) (Fa := Ra) hrr9 hRR (by decide)
            have hGG := mz_fr (K := [17]) (Fa := Ga) hgr9 hGG (by decide)
            have hg_0 := (hfr9 14 (by decide)).trans hg_0
            have hg_1 := (hfr9 15 (by decide)).trans hg_1
            have hg_2 := (hfr9 16 (by decide)).trans hg_2
            have hg_3 := (hfr9 13 (by decide)).trans hg_3
            have hg_4 := (hgr9 17 (by decide)).trans hg_4
            have hg_5 := (hfr9 19 (by decide)).trans hg_5
            obtain ⟨v1658, hf1657⟩ : ∃ z : Int32, F 23 = z := ⟨_, rfl⟩
            have hq_v1658 := tk_rng v1658
            rw [hf1657] at hpo1650 hpo1652
            have hr_v1658 : 0 ≤ v1658.toInt ∧ v1658.toInt ≤ 400 := hIF.at hf1657
            obtain ⟨v1660, hf1659⟩ : ∃ z : Int32, F 29 = z := ⟨_, rfl⟩
            have hq_v1660 := tk_rng v1660
            rw [hf1659] at hpo1650 hpo1651
            have hr_v1660 : 0 ≤ v1660.toInt ∧ v1660.toInt ≤ 400 := hIF.at hf1659
            have hs9 := hx1653 (by omega)
            rw [hf1657, hf1659] at hs9
            rw [hf1659] at hx1655
            have hd0 : v1660.toInt.toNat = 0 := by
              by_cases h9 : 1 ≤ v1660.toInt
              · have h8 := (hx1655 h9).1 (by decide)
                have h7 := hPTT (v1660.toInt - 1).toNat (by omega)
                omega
              · omega
            have hL8 := hL7
            exact mz_vret hx hb hr hlocks ⟨hIF, hIG, hIR, hFF, hRR, hGG, (by rw [hg_0, hg_1]; omega), (by rw [hg_1]; omega), (by rw [hg_0, hg_1, hg_2]; omega), (by rw [hg_0, hg_1, hg_2, hg_4]; omega), (by rw [hg_0]; omega), (by rw [hg_0, hf1657]; omega), (by rw [hf1657]; omega), (fun _ => ⟨by rw [hf1657, ← hzs]; exact PT.over hs9.1 hd0, by rw [← hzs]; exact hL8.1.trans hs9.2.1 (Nat.le_refl _), by rw [← hzs]; exact hL8.2.trans hs9.2.2 (Nat.le_refl _)⟩)⟩ hM hS dX13_readExpression_81
          · have hc1649 : ¬ (v1219.toInt = 4) := fun h9 => c9 ((fi_eq rfl (show (4 : Int32).toInt = 4 by decide)).mpr h9)
            refine lv_iload_n hx hb dX13_readExpression_32 rfl (lv_at hl 0 rfl) ?_
            refine lv_if_ne (tgt := 43) hx hb dX13_readExpression_33 (by decide) (fun c9 => ?_) (fun c9 => ?_)
            · have hc1661 : ¬ (v1219.toInt = 0) := fun h9 => c9 ((fi_eq rfl (show (0 : Int32).toInt = 0 by decide)).mpr h9)
              refine lv_iload_n hx hb dX13_readExpression_43 rfl (lv_at hl 0 rfl) ?_
              refine lv_iconst (v := 1) hx hb dX13_readExpression_44 (by decide) ?_
              refine lv_icmp_ne (tgt := 55) hx hb dX13_readExpression_45 (by decide) (fun c9 => ?_) (fun c9 => ?_)
              · have hc1662 : ¬ (v1219.toInt = 1) := fun h9 => c9 ((fi_eq rfl (show (1 : Int32).toInt = 1 by decide)).mpr h9)
                refine lv_iload_n hx hb dX13_readExpression_55 rfl (lv_at hl 0 rfl) ?_
                refine lv_iconst (v := 3) hx hb dX13_readExpression_56 (by decide) ?_
                refine lv_icmp_ne (tgt := 68) hx hb dX13_readExpression_57 (by decide) (fun c9 => ?_) (fun c9 => ?_)
                · have hc1663 : ¬ (v1219.toInt = 3) := fun h9 => c9 ((fi_eq rfl (show (3 : Int32).toInt = 3 by decide)).mpr h9)
                  refine lv_aload_n hx hb dX13_readExpression_68 rfl (lv_at hl 1 rfl) ?_
                  have hL9 := (hPT (by rw [hg_5]; omega)).2
                  refine mz_Vi (As := []) (rest := []) ⟨hx, hb, hml, hown, hts⟩ hK hM hS (k_X13_behindTest l D cy ld ad am hD _ _ _ _ v1220 v1221 v1222 gp v1223 v1224 v1225 v1226 zs hIF hIG hIR hg_0 hg_1 hg_2 hg_3 hg_4 hg_5 hg_6 hf2 (by omega) (by omega) (by omega) (by omega) (by omega) (by omega) (by have h9 := (hPT (by rw [hg_5]; omega)).1; rw [hg_6, hf2, show v1219.toInt = 2 by omega] at h9; exact h9)) ⟨callB_of 0 hts (wl_in mw_789) rfl rfl rfl (htl _ mw_5) (htl _ mw_786) hd_yX13_behindTest ⟨(Nat.le_of_ble_eq_true rfl), (Nat.le_of_ble_eq_true rfl)⟩, htl _ mw_787, htl _ mw_788⟩ rfl hl.1 rfl (Nat.le_of_ble_eq_true rfl) dX13_readExpression_69 ⟨(Nat.le_of_ble_eq_true rfl), (Nat.le_of_ble_eq_true rfl)⟩ (fun v1664 H locs F G R S hpo hM hS => ?_)
                  obtain ⟨hIF, hIG, hIR, hfr9, hrr9, hgr9, hpo1665, hpo1666, hpo1667, hpo1668, hpo1669, hpo1670, hpo1671, hpo1672, hpo1673, hpo1674, hx1675⟩ := hpo
                  have hq_v1664 := tk_rng v1664
                  have hFF := mz_fr (K := [14, 15, 16, 18, 19, 23, 26, 29, 30]) (Fa := Fa) hfr9 hFF (by decide)
                  have hRR := mz_fr (K := [24, 25, 27, 28]) (Fa := Ra) hrr9 hRR (by decide)
                  have hGG := mz_fr (K := [17]) (Fa := Ga) hgr9 hGG (by decide)
                  have hg_3 := (hfr9 13 (by decide)).trans hg_3
                  obtain ⟨v1678, hf1677⟩ : ∃ z : Int32, F 14 = z := ⟨_, rfl⟩
                  have hq_v1678 := tk_rng v1678
                  rw [hf1677] at hpo1665 hpo1667 hpo1668 hpo1669 hpo1670 hpo1672
                  have hr_v1678 : 0 ≤ v1678.toInt ∧ v1678.toInt ≤ 400 := hIF.at hf1677
                  obtain ⟨v1680, hf1679⟩ : ∃ z : Int32, F 15 = z := ⟨_, rfl⟩
                  have hq_v1680 := tk_rng v1680
                  rw [hf1679] at hpo1665 hpo1666 hpo1667 hpo1668
                  have hr_v1680 : 0 ≤ v1680.toInt ∧ v1680.toInt ≤ 400 := hIF.at hf1679
                  obtain ⟨v1682, hf1681⟩ : ∃ z : Int32, F 16 = z := ⟨_, rfl⟩
                  have hq_v1682 := tk_rng v1682
                  rw [hf1681] at hpo1667 hpo1668
                  have hr_v1682 : 0 ≤ v1682.toInt ∧ v1682.toInt ≤ 3 := hIF.at hf1681
                  obtain ⟨w1684, hf1683⟩ : ∃ z : Int64, G 17 = z := ⟨_, rfl⟩
                  have hq_w1684 := tk_rngL w1684
                  rw [hf1683] at hpo1668
                  obtain ⟨v1686, hf1685⟩ : ∃ z : Int32, F 19 = z := ⟨_, rfl⟩
                  have hq_v1686 := tk_rng v1686
                  rw [hf1685] at hpo1672
                  have hr_v1686 : 0 ≤ v1686.toInt ∧ v1686.toInt ≤ 1 := hIF.at hf1685
                  obtain ⟨v1688, hf1687⟩ : ∃ z : Int32, F 23 = z := ⟨_, rfl⟩
                  have hq_v1688 := tk_rng v1688
                  rw [hf1687] at hpo1670 hpo1671
                  have hr_v1688 : 0 ≤ v1688.toInt ∧ v1688.toInt ≤ 400 := hIF.at hf1687
                  obtain ⟨v1690, hf1689⟩ : ∃ z : Int32, F 29 = z := ⟨_, rfl⟩
                  have hq_v1690 := tk_rng v1690
                  rw [hf1689] at hpo1670
                  have hr_v1690 : 0 ≤ v1690.toInt ∧ v1690.toInt ≤ 400 := hIF.at hf1689
                  have hPT : (F 19).toInt = 0 → PT (R 24) (R 25) (R 27) (R 28) zs (F 23).toInt.toNat (F 29).toInt.toNat v1664.toInt ∧ low zs (Ra 24) (R 24) ∧ low zs (Ra 25) (R 25) := fun h9 => ⟨(hx1675 h9).1, hL9.1.trans (hx1675 h9).2.1 (Nat.le_refl _), hL9.2.trans (hx1675 h9).2.2 (Nat.le_refl _)⟩
                  refine lv_istore_n (lv' := [(2, .int v1664), (0, .ref am), (1, .int p1)]) hx hb dX13_readExpression_72 rfl hl (by decide) rfl (fun ls hl => ?_)
                  refine lv_goto (tgt := 20) hx hb dX13_readExpression_73 (by decide) ?_
                  exact ih_l1636 v1664 v1678 v1680 v1682 w1684 v1686 v1688 v1690 _ _ _ _ _ _ (by omega) (by omega) (by omega) (by omega) (by omega) (by omega) (by omega) (by omega) (by omega) hM hS hIF hIG hIR hFF hGG hRR hf1677 hf1679 hf1681 hg_3 hf1683 hf1685 hf1687 hf1689 (by omega) (by omega) hPT (mz_me.lt hm_l1636 (by omega) (by omega) (by omega) (by omega) (by omega)) _ (lv_sub hl [0, 1, 2] rfl)
                · have hc1663 : v1219.toInt = 3 := (fi_eq rfl (show (3 : Int32).toInt = 3 by decide)).mp c9
                  refine lv_aload_n hx hb dX13_readExpression_60 rfl (lv_at hl 1 rfl) ?_
                  refine lv_iload_n hx hb dX13_readExpression_61 rfl (lv_at hl 2 rfl) ?_
                  have hL9 := (hPT (by rw [hg_5]; omega)).2
                  refine mz_Vi (As := [.int p1]) (rest := []) ⟨hx, hb, hml, hown, hts⟩ hK hM hS (k_X13_behindSum l D cy ld ad am hD _ _ _ _ p1 v1220 v1221 v1222 gp v1223 v1224 v1225 v1226 zs hIF hIG hIR hg_0 hg_1 hg_2 hg_3 hg_4 hg_5 hg_6 hf2 (by omega) (by omega) (by omega) (by omega) (by omega) (by omega) (by omega) (by omega) (by have h9 := (hPT (by rw [hg_5]; omega)).1; rw [hg_6, hf2, show v1219.toInt = 3 by omega] at h9; exact h9)) ⟨callB_of 1 hts (wl_in mw_766) rfl rfl rfl (htl _ mw_5) (htl _ mw_763) hd_yX13_behindSum ⟨(Nat.le_of_ble_eq_true rfl), (Nat.le_of_ble_eq_true rfl)⟩, htl _ mw_764, htl _ mw_765⟩ rfl hl.1 rfl (Nat.le_of_ble_eq_true rfl) dX13_readExpression_62 ⟨(Nat.le_of_ble_eq_true rfl), (Nat.le_of_ble_eq_true rfl)⟩ (fun v1691 H locs F G R S hpo hM hS => ?_)
                  obtain ⟨hIF, hIG, hIR, hfr9, hrr9, hgr9, hpo1692, hpo1693, hpo1694, hpo1695, hpo1696, hpo1697, hpo1698, hpo1699, hpo1700, hpo1701, hpo1702, hx1703⟩ := hpo
                  have hq_v1691 := tk_rng v1691
                  have hFF := mz_fr (K := [14, 15, 16, 18, 19, 23, 26, 29, 30]) (Fa := Fa) hfr9 hFF (by decide)
                  have hRR := mz_fr (K := [24, 25, 27, 28]) (Fa := Ra) hrr9 hRR (by decide)
                  have hGG := mz_fr (K := [17]) (Fa := Ga) hgr9 hGG (by decide)
                  have hg_3 := (hfr9 13 (by decide)).trans hg_3
                  obtain ⟨v1706, hf1705⟩ : ∃ z : Int32, F 14 = z := ⟨_, rfl⟩
                  have hq_v1706 := tk_rng v1706
                  rw [hf1705] at hpo1692 hpo1694 hpo1695 hpo1696 hpo1697 hpo1699 hpo1700
                  have hr_v1706 : 0 ≤ v1706.toInt ∧ v1706.toInt ≤ 400 := hIF.at hf1705
                  obtain ⟨v1708, hf1707⟩ : ∃ z : Int32, F 15 = z := ⟨_, rfl⟩
                  have hq_v1708 := tk_rng v1708
                  rw [hf1707] at hpo1692 hpo1693 hpo1694 hpo1695
                  have hr_v1708 : 0 ≤ v1708.toInt ∧ v1708.toInt ≤ 400 := hIF.at hf1707
                  obtain ⟨v1710, hf1709⟩ : ∃ z : Int32, F 16 = z := ⟨_, rfl⟩
                  have hq_v1710 := tk_rng v1710
                  rw [hf1709] at hpo1694 hpo1695
                  have hr_v1710 : 0 ≤ v1710.toInt ∧ v1710.toInt ≤ 3 := hIF.at hf1709
                  obtain ⟨w1712, hf1711⟩ : ∃ z : Int64, G 17 = z := ⟨_, rfl⟩
                  have hq_w1712 := tk_rngL w1712
                  rw [hf1711] at hpo1695
                  obtain ⟨v1714, hf1713⟩ : ∃ z : Int32, F 19 = z := ⟨_, rfl⟩
                  have hq_v1714 := tk_rng v1714
                  rw [hf1713] at hpo1699 hpo1700
                  have hr_v1714 : 0 ≤ v1714.toInt ∧ v1714.toInt ≤ 1 := hIF.at hf1713
                  obtain ⟨v1716, hf1715⟩ : ∃ z : Int32, F 23 = z := ⟨_, rfl⟩
                  have hq_v1716 := tk_rng v1716
                  rw [hf1715] at hpo1697 hpo1698
                  have hr_v1716 : 0 ≤ v1716.toInt ∧ v1716.toInt ≤ 400 := hIF.at hf1715
                  obtain ⟨v1718, hf1717⟩ : ∃ z : Int32, F 29 = z := ⟨_, rfl⟩
                  have hq_v1718 := tk_rng v1718
                  rw [hf1717] at hpo1697
                  have hr_v1718 : 0 ≤ v1718.toInt ∧ v1718.toInt ≤ 400 := hIF.at hf1717
                  have hPT : (F 19).toInt = 0 → PT (R 24) (R 25) (R 27) (R 28) zs (F 23).toInt.toNat (F 29).toInt.toNat v1691.toInt ∧ low zs (Ra 24) (R 24) ∧ low zs (Ra 25) (R 25) := fun h9 => ⟨(hx1703 h9).1, hL9.1.trans (hx1703 h9).2.1 (Nat.le_refl _), hL9.2.trans (hx1703 h9).2.2 (Nat.le_refl _)⟩
                  refine lv_goto (tgt := 72) hx hb dX13_readExpression_65 (by decide) ?_
                  refine lv_istore_n (lv' := [(2, .int v1691), (0, .ref am), (1, .int p1)]) hx hb dX13_readExpression_72 rfl hl (by decide) rfl (fun ls hl => ?_)
                  refine lv_goto (tgt := 20) hx hb dX13_readExpression_73 (by decide) ?_
                  exact ih_l1636 v1691 v1706 v1708 v1710 w1712 v1714 v1716 v1718 _ _ _ _ _ _ (by omega) (by omega) (by omega) (by omega) (by omega) (by omega) (by omega) (by omega) (by omega) hM hS hIF hIG hIR hFF hGG hRR hf1705 hf1707 hf1709 hg_3 hf1711 hf1713 hf1715 hf1717 (by omega) (by omega) hPT (mz_me.lt hm_l1636 (by omega) (by omega) (by omega) (by omega) (by omega)) _ (lv_sub hl [0, 1, 2] rfl)
              · have hc1662 : v1219.toInt = 1 := (fi_eq rfl (show (1 : Int32).toInt = 1 by decide)).mp c9
                refine lv_aload_n hx hb dX13_readExpression_48 rfl (lv_at hl 1 rfl) ?_
                have hL9 := (hPT (by rw [hg_5]; omega)).2
                refine mz_Vi (As := []) (rest := []) ⟨hx, hb, hml, hown, hts⟩ hK hM hS (k_X13_readPart l D cy ld ad am hD _ _ _ _ v1220 v1221 v1222 gp v1223 v1224 v1225 v1226 zs hIF hIG hIR hg_0 hg_1 hg_2 hg_3 hg_4 hg_5 hg_6 hf2 (by omega) (by omega) (by omega) (by omega) (by omega) (by omega) hPI) ⟨callB_of 0 hts (wl_in mw_740) rfl rfl rfl (htl _ mw_5) (htl _ mw_737) hd_yX13_readPart ⟨(Nat.le_of_ble_eq_true rfl), (Nat.le_of_ble_eq_true rfl)⟩, htl _ mw_738, htl _ mw_739⟩ rfl hl.1 rfl (Nat.le_of_ble_eq_true rfl) dX13_readExpression_49 ⟨(Nat.le_of_ble_eq_true rfl), (Nat.le_of_ble_eq_true rfl)⟩ (fun v1719 H locs F G R S hpo hM hS => ?_)
                obtain ⟨hIF, hIG, hIR, hfr9, hrr9, hgr9, hpo1720, hpo1721, hpo1722, hpo1723, hpo1724, hpo1725, hpo1726, hpo1727, hpo1728, hpo1729, hx1730⟩ := hpo
                have hq_v1719 := tk_rng v1719
                have hFF := mz_fr (K := [14, 15, 16, 18, 19, 23, 26, 29, 30]) (Fa := Fa) hfr9 hFF (by decide)
                have hRR := mz_fr (K := [24, 25, 27, 28]) (Fa := Ra) hrr9 hRR (by decide)
                have hGG := mz_fr (K := [17]) (Fa := Ga) hgr9 hGG (by decide)
                have hg_3 := (hfr9 13 (by decide)).trans hg_3
                obtain ⟨v1733, hf1732⟩ : ∃ z : Int32, F 14 = z := ⟨_, rfl⟩
                have hq_v1733 := tk_rng v1733
                rw [hf1732] at hpo1720 hpo1722 hpo1723 hpo1724 hpo1725 hpo1727
                have hr_v1733 : 0 ≤ v1733.toInt ∧ v1733.toInt ≤ 400 := hIF.at hf1732
                obtain ⟨v1735, hf1734⟩ : ∃ z : Int32, F 15 = z := ⟨_, rfl⟩
                have hq_v1735 := tk_rng v1735
                rw [hf1734] at hpo1720 hpo1721 hpo1722 hpo1723
                have hr_v1735 : 0 ≤ v1735.toInt ∧ v1735.toInt ≤ 400 := hIF.at hf1734
                obtain ⟨v1737, hf1736⟩ : ∃ z : Int32, F 16 = z := ⟨_, rfl⟩
                have hq_v1737 := tk_rng v1737
                rw [hf1736] at hpo1722 hpo1723
                have hr_v1737 : 0 ≤ v1737.toInt ∧ v1737.toInt ≤ 3 := hIF.at hf1736
                obtain ⟨w1739, hf1738⟩ : ∃ z : Int64, G 17 = z := ⟨_, rfl⟩
                have hq_w1739 := tk_rngL w1739
                rw [hf1738] at hpo1723
                obtain ⟨v1741, hf1740⟩ : ∃ z : Int32, F 19 = z := ⟨_, rfl⟩
                have hq_v1741 := tk_rng v1741
                rw [hf1740] at hpo1727
                have hr_v1741 : 0 ≤ v1741.toInt ∧ v1741.toInt ≤ 1 := hIF.at hf1740
                obtain ⟨v1743, hf1742⟩ : ∃ z : Int32, F 23 = z := ⟨_, rfl⟩
                have hq_v1743 := tk_rng v1743
                rw [hf1742] at hpo1725 hpo1726
                have hr_v1743 : 0 ≤ v1743.toInt ∧ v1743.toInt ≤ 400 := hIF.at hf1742
                obtain ⟨v1745, hf1744⟩ : ∃ z : Int32, F 29 = z := ⟨_, rfl⟩
                have hq_v1745 := tk_rng v1745
                rw [hf1744] at hpo1725
                have hr_v1745 : 0 ≤ v1745.toInt ∧ v1745.toInt ≤ 400 := hIF.at hf1744
                have hPT : (F 19).toInt = 0 → PT (R 24) (R 25) (R 27) (R 28) zs (F 23).toInt.toNat (F 29).toInt.toNat v1719.toInt ∧ low zs (Ra 24) (R 24) ∧ low zs (Ra 25) (R 25) := fun h9 => ⟨(hx1730 h9).1, hL9.1.trans (hx1730 h9).2.1 (Nat.le_refl _), hL9.2.trans (hx1730 h9).2.2 (Nat.le_refl _)⟩
                refine lv_goto (tgt := 72) hx hb dX13_readExpression_52 (by decide) ?_
                refine lv_istore_n (lv' := [(2, .int v1719), (0, .ref am), (1, .int p1)]) hx hb dX13_readExpression_72 rfl hl (by decide) rfl (fun ls hl => ?_)
                refine lv_goto (tgt := 20) hx hb dX13_readExpression_73 (by decide) ?_
                exact ih_l1636 v1719 v1733 v1735 v1737 w1739 v1741 v1743 v1745 _ _ _ _ _ _ (by omega) (by omega) (by omega) (by omega) (by omega) (by omega) (by omega) (by omega) (by omega) hM hS hIF hIG hIR hFF hGG hRR hf1732 hf1734 hf1736 hg_3 hf1738 hf1740 hf1742 hf1744 (by omega) (by omega) hPT (mz_me.lt hm_l1636 (by omega) (by omega) (by omega) (by omega) (by omega)) _ (lv_sub hl [0, 1, 2] rfl)
            · have hc1661 : v1219.toInt = 0 := (fi_eq rfl (show (0 : Int32).toInt = 0 by decide)).mp c9
              refine lv_aload_n hx hb dX13_readExpression_36 rfl (lv_at hl 1 rfl) ?_
              have hL9 := (hPT (by rw [hg_5]; omega)).2
              refine mz_Vi (As := []) (rest := []) ⟨hx, hb, hml, hown, hts⟩ hK hM hS (k_X13_readPlain l D cy ld ad am hD _ _ _ _ v1220 v1221 v1222 gp v1223 v1224 v1225 v1226 zs hIF hIG hIR hg_0 hg_1 hg_2 hg_3 hg_4 hg_5 hg_6 hf2 (by omega) (by omega) (by omega) (by omega) (by omega) (by omega) (by have h9 := (hPT (by rw [hg_5]; omega)).1; rw [hg_6, hf2, show v1219.toInt = 0 by omega] at h9; exact h9)) ⟨callB_of 0 hts (wl_in mw_723) rfl rfl rfl (htl _ mw_5) (htl _ mw_720) hd_yX13_readPlain ⟨(Nat.le_of_ble_eq_true rfl), (Nat.le_of_ble_eq_true rfl)⟩, htl _ mw_721, htl _ mw_722⟩ rfl hl.1 rfl (Nat.le_of_ble_eq_true rfl) dX13_readExpression_37 ⟨(Nat.le_of_ble_eq_true rfl), (Nat.le_of_ble_eq_true rfl)⟩ (fun v1746 H locs F G R S hpo hM hS => ?_)
              obtain ⟨hIF, hIG, hIR, hfr9, hrr9, hgr9, hpo1747, hpo1748, hpo1749, hpo1750, hpo1751, hpo1752, hpo1753, hpo1754, hpo1755, hpo1756, hx1757⟩ := hpo
              have hq_v1746 := tk_rng v1746
              have hFF := mz_fr (K := [14, 15, 16, 18, 19, 23, 26, 29, 30]) (Fa := Fa) hfr9 hFF (by decide)
              have hRR := mz_fr (K := [24, 25, 27, 28]) (Fa := Ra) hrr9 hRR (by decide)
              have hGG := mz_fr (K := [17]) (Fa := Ga) hgr9 hGG (by decide)
              have hg_3 := (hfr9 13 (by decide)).trans hg_3
              obtain ⟨v1760, hf1759⟩ : ∃ z : Int32, F 14 = z := ⟨_, rfl⟩
              have hq_v1760 := tk_rng v1760
              rw [hf1759] at hpo1747 hpo1749 hpo1750 hpo1751 hpo1752 hpo1754
              have hr_v1760 : 0 ≤ v1760.toInt ∧ v1760.toInt ≤ 400 := hIF.at hf1759
              obtain ⟨v1762, hf1761⟩ : ∃ z : Int32, F 15 = z := ⟨_, rfl⟩
              have hq_v1762 := tk_rng v1762
              rw [hf1761] at hpo1747 hpo1748 hpo1749 hpo1750
              have hr_v1762 : 0 ≤ v1762.toInt ∧ v1762.toInt ≤ 400 := hIF.at hf1761
              obtain ⟨v1764, hf1763⟩ : ∃ z : Int32, F 16 = z := ⟨_, rfl⟩
              have hq_v1764 := tk_rng v1764
              rw [hf1763] at hpo1749 hpo1750
              have hr_v1764 : 0 ≤ v1764.toInt ∧ v1764.toInt ≤ 3 := hIF.at hf1763
              obtain ⟨w1766, hf1765⟩ : ∃ z : Int64, G 17 = z := ⟨_, rfl⟩
              have hq_w1766 := tk_rngL w1766
              rw [hf1765] at hpo1750
              obtain ⟨v1768, hf1767⟩ : ∃ z : Int32, F 19 = z := ⟨_, rfl⟩
              have hq_v1768 := tk_rng v1768
              rw [hf1767] at hpo1754
              have hr_v1768 : 0 ≤ v1768.toInt ∧ v1768.toInt ≤ 1 := hIF.at hf1767
              obtain ⟨v1770, hf1769⟩ : ∃ z : Int32, F 23 = z := ⟨_, rfl⟩
              have hq_v1770 := tk_rng v1770
              rw [hf1769] at hpo1752 hpo1753
              have hr_v1770 : 0 ≤ v1770.toInt ∧ v1770.toInt ≤ 400 := hIF.at hf1769
              obtain ⟨v1772, hf1771⟩ : ∃ z : Int32, F 29 = z := ⟨_, rfl⟩
              have hq_v1772 := tk_rng v1772
              rw [hf1771] at hpo1752
              have hr_v1772 : 0 ≤ v1772.toInt ∧ v1772.toInt ≤ 400 := hIF.at hf1771
              have hPT : (F 19).toInt = 0 → PT (R 24) (R 25) (R 27) (R 28) zs (F 23).toInt.toNat (F 29).toInt.toNat v1746.toInt ∧ low zs (Ra 24) (R 24) ∧ low zs (Ra 25) (R 25) := fun h9 => ⟨(hx1757 h9).1, hL9.1.trans (hx1757 h9).2.1 (Nat.le_refl _), hL9.2.trans (hx1757 h9).2.2 (Nat.le_refl _)⟩
              refine lv_goto (tgt := 72) hx hb dX13_readExpression_40 (by decide) ?_
              refine lv_istore_n (lv' := [(2, .int v1746), (0, .ref am), (1, .int p1)]) hx hb dX13_readExpression_72 rfl hl (by decide) rfl (fun ls hl => ?_)
              refine lv_goto (tgt := 20) hx hb dX13_readExpression_73 (by decide) ?_
              exact ih_l1636 v1746 v1760 v1762 v1764 w1766 v1768 v1770 v1772 _ _ _ _ _ _ (by omega) (by omega) (by omega) (by omega) (by omega) (by omega) (by omega) (by omega) (by omega) hM hS hIF hIG hIR hFF hGG hRR hf1759 hf1761 hf1763 hg_3 hf1765 hf1767 hf1769 hf1771 (by omega) (by omega) hPT (mz_me.lt hm_l1636 (by omega) (by omega) (by omega) (by omega) (by omega)) _ (lv_sub hl [0, 1, 2] rfl)
    have hk_0 : (0 : Int32).toInt = 0 := by decide
    have hk_0 : (0 : Int32).toInt = 0 := by decide
    have hk_0 : (0 : Int32).toInt = 0 := by decide
    exact hl1636 2011 0 gf gt gs gw gb gc 0 _ _ _ _ _ _ (by omega) (by omega) (by omega) (by omega) (by omega) (by omega) (by omega) (by omega) (by omega) hM hS hIF hIG hIR hFF (fun _ _ => rfl) (fun _ _ => rfl) hg_0 hg_1 hg_2 hg_3 hg_4 hg_5 hg_6 hf2 (by omega) (by omega) (fun _ => ⟨PT.mk hPI0 (by decide) (fun _ i h9 => absurd h9 (by rw [show (F 29).toInt = 0 by rw [hf2]; decide]; exact Nat.not_lt_zero _)) (fun h9 => absurd h9 (by decide)) rfl rfl rfl rfl rfl rfl, low.refl _ _, low.refl _ _⟩) (mz_me.le (by omega) (by omega)) _ (lv_sub hl [0, 1, 2] rfl)
