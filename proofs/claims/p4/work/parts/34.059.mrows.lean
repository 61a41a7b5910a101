theorem hd_yX13_behindTest : yX13_behindTest.cls ≠ "java/lang/invoke/MethodHandle" ∧ yX13_behindTest.cls ≠ "java/lang/invoke/VarHandle" ∧ (parseMethodDescriptor yX13_behindTest.desc).map (fun d => d.parameters.length) = some 0 := by decide +kernel
theorem hd_yX13_behindSum : yX13_behindSum.cls ≠ "java/lang/invoke/MethodHandle" ∧ yX13_behindSum.cls ≠ "java/lang/invoke/VarHandle" ∧ (parseMethodDescriptor yX13_behindSum.desc).map (fun d => d.parameters.length) = some 1 := by decide +kernel
theorem hd_yX13_readPlain : yX13_readPlain.cls ≠ "java/lang/invoke/MethodHandle" ∧ yX13_readPlain.cls ≠ "java/lang/invoke/VarHandle" ∧ (parseMethodDescriptor yX13_readPlain.desc).map (fun d => d.parameters.length) = some 0 := by decide +kernel
theorem dX13_readExpression_0 : decode cX13_readExpression 0 = .ok (.aload_n 0, 1) := by decide +kernel
theorem dX13_readExpression_1 : decode cX13_readExpression 1 = .ok (.iconst 0, 1) := by decide +kernel
theorem dX13_readExpression_2 : decode cX13_readExpression 2 = .ok (.putfield 278, 3) := by decide +kernel
theorem dX13_readExpression_5 : decode cX13_readExpression 5 = .ok (.aload_n 0, 1) := by decide +kernel
theorem dX13_readExpression_6 : decode cX13_readExpression 6 = .ok (.iconst 0, 1) := by decide +kernel
theorem dX13_readExpression_7 : decode cX13_readExpression 7 = .ok (.putfield 300, 3) := by decide +kernel
theorem dX13_readExpression_10 : decode cX13_readExpression 10 = .ok (.iload_n 1, 1) := by decide +kernel
theorem dX13_readExpression_11 : decode cX13_readExpression 11 = .ok (.ifCond .eq 7, 3) := by decide +kernel
theorem dX13_readExpression_18 : decode cX13_readExpression 18 = .ok (.iconst 1, 1) := by decide +kernel
theorem dX13_readExpression_19 : decode cX13_readExpression 19 = .ok (.istore_n 2, 1) := by decide +kernel
theorem dX13_readExpression_20 : decode cX13_readExpression 20 = .ok (.aload_n 0, 1) := by decide +kernel
theorem dX13_readExpression_21 : decode cX13_readExpression 21 = .ok (.getfield 236, 3) := by decide +kernel
theorem dX13_readExpression_24 : decode cX13_readExpression 24 = .ok (.ifCond .ne 52, 3) := by decide +kernel
theorem dX13_readExpression_76 : decode cX13_readExpression 76 = .ok (.aload_n 0, 1) := by decide +kernel
theorem dX13_readExpression_77 : decode cX13_readExpression 77 = .ok (.iconst 1, 1) := by decide +kernel
theorem dX13_readExpression_78 : decode cX13_readExpression 78 = .ok (.invokevirtual 342, 3) := by decide +kernel
theorem dX13_readExpression_81 : decode cX13_readExpression 81 = .ok (.return_, 1) := by decide +kernel
theorem dX13_readExpression_27 : decode cX13_readExpression 27 = .ok (.iload_n 2, 1) := by decide +kernel
theorem dX13_readExpression_28 : decode cX13_readExpression 28 = .ok (.iconst 4, 1) := by decide +kernel
theorem dX13_readExpression_29 : decode cX13_readExpression 29 = .ok (.if_icmp .eq 47, 3) := by decide +kernel
theorem dX13_readExpression_32 : decode cX13_readExpression 32 = .ok (.iload_n 2, 1) := by decide +kernel
theorem dX13_readExpression_33 : decode cX13_readExpression 33 = .ok (.ifCond .ne 10, 3) := by decide +kernel
theorem dX13_readExpression_43 : decode cX13_readExpression 43 = .ok (.iload_n 2, 1) := by decide +kernel
theorem dX13_readExpression_44 : decode cX13_readExpression 44 = .ok (.iconst 1, 1) := by decide +kernel
theorem dX13_readExpression_45 : decode cX13_readExpression 45 = .ok (.if_icmp .ne 10, 3) := by decide +kernel
theorem dX13_readExpression_55 : decode cX13_readExpression 55 = .ok (.iload_n 2, 1) := by decide +kernel
theorem dX13_readExpression_56 : decode cX13_readExpression 56 = .ok (.iconst 3, 1) := by decide +kernel
theorem dX13_readExpression_57 : decode cX13_readExpression 57 = .ok (.if_icmp .ne 11, 3) := by decide +kernel
theorem dX13_readExpression_68 : decode cX13_readExpression 68 = .ok (.aload_n 0, 1) := by decide +kernel
theorem dX13_readExpression_69 : decode cX13_readExpression 69 = .ok (.invokevirtual 363, 3) := by decide +kernel
theorem dX13_readExpression_72 : decode cX13_readExpression 72 = .ok (.istore_n 2, 1) := by decide +kernel
theorem dX13_readExpression_73 : decode cX13_readExpression 73 = .ok (.goto (-53), 3) := by decide +kernel
theorem dX13_readExpression_60 : decode cX13_readExpression 60 = .ok (.aload_n 0, 1) := by decide +kernel
theorem dX13_readExpression_61 : decode cX13_readExpression 61 = .ok (.iload_n 1, 1) := by decide +kernel
theorem dX13_readExpression_62 : decode cX13_readExpression 62 = .ok (.invokevirtual 359, 3) := by decide +kernel
theorem dX13_readExpression_65 : decode cX13_readExpression 65 = .ok (.goto 7, 3) := by decide +kernel
theorem dX13_readExpression_48 : decode cX13_readExpression 48 = .ok (.aload_n 0, 1) := by decide +kernel
theorem dX13_readExpression_49 : decode cX13_readExpression 49 = .ok (.invokevirtual 339, 3) := by decide +kernel
theorem dX13_readExpression_52 : decode cX13_readExpression 52 = .ok (.goto 20, 3) := by decide +kernel
theorem dX13_readExpression_36 : decode cX13_readExpression 36 = .ok (.aload_n 0, 1) := by decide +kernel
theorem dX13_readExpression_37 : decode cX13_readExpression 37 = .ok (.invokevirtual 356, 3) := by decide +kernel
theorem dX13_readExpression_40 : decode cX13_readExpression 40 = .ok (.goto 32, 3) := by decide +kernel
theorem dX13_readExpression_14 : decode cX13_readExpression 14 = .ok (.iconst 0, 1) := by decide +kernel
theorem dX13_readExpression_15 : decode cX13_readExpression 15 = .ok (.goto 4, 3) := by decide +kernel
set_option maxHeartbeats 4000000 in
set_option maxRecDepth 100000 in
theorem k_X13_readExpression (l : Launch) (D : va_G) (cy : Nat → ClassId) (ld ad : Nat → Nat) (am : Nat) (hD : mz_D ad am) (Fa : Nat → Int32) (Ga : Nat → Int64) (Ra : Nat → Nat → Int32) (Sa : Nat → Nat → Int64) (p1 : Int32) (gf : Int32) (gt : Int32) (gs : Int32) (gp : Int32) (gw : Int64) (gb : Int32) (gc : Int32) (hIF : mz_IF false Fa) (hIG : mz_IG Ga) (hIR : mz_IR [] true Ra) (hg_0 : Fa 14 = gf) (hg_1 : Fa 15 = gt) (hg_2 : Fa 16 = gs) (hg_3 : Fa 13 = gp) (hg_4 : Ga 17 = gw) (hg_5 : Fa 19 = gb) (hg_6 : Fa 23 = gc) (hp_0 : 0 ≤ p1.toInt) (hp_1 : p1.toInt ≤ 1) (hp_2 : 0 ≤ (-1) * gf.toInt + gt.toInt) (hp_3 : 0 ≤ gp.toInt + (-1) * gt.toInt) (hp_4 : (1 ≤ gs.toInt → 0 ≤ (-1) * gf.toInt + gt.toInt + (-1))) (hp_5 : (27 ≤ gw.toInt → 1 ≤ gs.toInt → gs.toInt ≤ 1 → 0 ≤ (-1) * gf.toInt + gt.toInt + (-2))) (hp_6 : 0 ≤ (-1) * gc.toInt + gf.toInt) (hp_7 : gb.toInt ≤ 0) : Met l yX13_readExpression (wl yX13_readExpression cX13_readExpression 3 none) ({ frames := 9, cells := 0, slots := 0, locals := 560 }) (mz_p D cy ld ad am Fa Ga Ra Sa [.ref am, .int p1]) (mz_w D cy ad am (fun F G R S => mz_IF false F ∧ mz_IG G ∧ mz_IR [] true R ∧ (∀ k : Nat, k ∉ ([14, 15, 16, 18, 19, 23, 26, 29, 30] : List Nat) → F k = Fa k) ∧ (∀ k : Nat, k ∉ ([24, 25, 27, 28] : List Nat) → R k = Ra k) ∧ (∀ k : Nat, k ∉ ([17] : List Nat) → G k = Ga k) ∧ 0 ≤ (-1) * (F 14).toInt + (F 15).toInt ∧ 0 ≤ gp.toInt + (-1) * (F 15).toInt ∧ (1 ≤ (F 16).toInt → 0 ≤ (-1) * (F 14).toInt + (F 15).toInt + (-1)) ∧ (27 ≤ (G 17).toInt → 1 ≤ (F 16).toInt → (F 16).toInt ≤ 1 → 0 ≤ (-1) * (F 14).toInt + (F 15).toInt + (-2)) ∧ 0 ≤ (-1) * gf.toInt + (F 14).toInt ∧ 0 ≤ (-1) * (F 23).toInt + (F 14).toInt ∧ 0 ≤ (-1) * gc.toInt + (F 23).toInt ∧ ((F 19).toInt = 0 → WFC (R 24) (R 25) gc.toInt.toNat (F 23).toInt.toNat ∧ low gc.toInt.toNat (Ra 24) (R 24) ∧ low gc.toInt.toNat (Ra 25) (R 25)))) 0 0 (mz_W ad am) := by
  refine mz_met (y := yX13_readExpression) (cc := cX13_readExpression) (maxL := 3) (ret := none) (av := [.ref am, .int p1]) _ (by decide) (Nat.le_of_ble_eq_true rfl) ?_
  intro p e s m args below meth c hx hb hr hml hts htl hown hlocks hK H locs hM hS ls hl
  have hown : s.vm.findClass RX13 = some m.cls := hown
  have hl : lv_has ls 3 [(0, .ref am), (1, .int p1)] := hl
  have hr_p1 := tk_rng p1
  have hq_gf := tk_rng gf
  have hq_gt := tk_rng gt
  have hq_gs := tk_rng gs
  have hq_gp := tk_rng gp
  have hq_gw := tk_rngL gw
  have hq_gb := tk_rng gb
  have hq_gc := tk_rng gc
  have hr_gf : 0 ≤ gf.toInt ∧ gf.toInt ≤ 400 := hIF.at hg_0
  have hr_gt : 0 ≤ gt.toInt ∧ gt.toInt ≤ 400 := hIF.at hg_1
  have hr_gs : 0 ≤ gs.toInt ∧ gs.toInt ≤ 3 := hIF.at hg_2
  have hr_gp : 0 ≤ gp.toInt ∧ gp.toInt ≤ 400 := hIF.at hg_3
  have hr_gb : 0 ≤ gb.toInt ∧ gb.toInt ≤ 1 := hIF.at hg_5
  have hr_gc : 0 ≤ gc.toInt ∧ gc.toInt ≤ 400 := hIF.at hg_6
  refine lv_aload_n hx hb dX13_readExpression_0 rfl (lv_at hl 0 rfl) ?_
  refine lv_iconst (v := 0) hx hb dX13_readExpression_1 (by decide) ?_
  have hk_0 : (0 : Int32).toInt = 0 := by decide
  have hk_0 : (0 : Int32).toInt = 0 := by decide
  refine mz_putI (ty := .int) (x := 0) hx hb htl hown hK hD hM hS 29 (Nat.le_of_ble_eq_true rfl) rfl (htl _ mw_718) (fun _ h9 => h9) rfl (tyX13_ok 29 (by decide)) rfl rfl dX13_readExpression_2 (fun H locs F hM hS hf9 hj9 => ?_)
  have hIF := hIF.put hf9 hj9 (show 0 ≤ (0 : Int32).toInt by omega) (show (0 : Int32).toInt ≤ 400 by omega) (by decide)
  have hFF := mz_frp (K := [14, 15, 16, 18, 19, 23, 26, 29, 30]) (Fa := Fa) hj9 (fun _ _ => rfl) (by decide)
  have hg_0 := (hj9 14 (by decide)).trans hg_0
  have hg_1 := (hj9 15 (by decide)).trans hg_1
  have hg_2 := (hj9 16 (by decide)).trans hg_2
  have hg_3 := (hj9 13 (by decide)).trans hg_3
  have hg_5 := (hj9 19 (by decide)).trans hg_5
  have hg_6 := (hj9 23 (by decide)).trans hg_6
  have hf2 := hf9
  refine lv_aload_n hx hb dX13_readExpression_5 rfl (lv_at hl 0 rfl) ?_
  refine lv_iconst (v := 0) hx hb dX13_readExpression_6 (by decide) ?_
  have hk_0 : (0 : Int32).toInt = 0 := by decide
  refine mz_putI (ty := .int) (x := 0) hx hb htl hown hK hD hM hS 30 (Nat.le_of_ble_eq_true rfl) rfl (htl _ mw_719) (fun _ h9 => h9) rfl (tyX13_ok 30 (by decide)) rfl rfl dX13_readExpression_7 (fun H locs F hM hS hf9 hj9 => ?_)
  have hIF := hIF.put hf9 hj9 (tk_rng _).1 (tk_rng _).2 (by decide)
  have hFF := mz_frp (K := [14, 15, 16, 18, 19, 23, 26, 29, 30]) (Fa := Fa) hj9 hFF (by decide)
  have hg_0 := (hj9 14 (by decide)).trans hg_0
  have hg_1 := (hj9 15 (by decide)).trans hg_1
  have hg_2 := (hj9 16 (by decide)).trans hg_2
  have hg_3 := (hj9 13 (by decide)).trans hg_3
  have hg_5 := (hj9 19 (by decide)).trans hg_5
  have hg_6 := (hj9 23 (by decide)).trans hg_6
  have hf2 := (hj9 29 (by decide)).trans hf2
  have hf4 := hf9
  obtain ⟨zs, hzs⟩ : ∃ z : Nat, z = gc.toInt.toNat := ⟨_, rfl⟩
  have hPI0 : PI (Ra 24) (Ra 25) (Ra 27) (Ra 28) zs (F 23).toInt.toNat (F 29).toInt.toNat 0 := by rw [hg_6, hf2, ← hzs]; exact PI.start _ _ _ _ _
  refine lv_iload_n hx hb dX13_readExpression_10 rfl (lv_at hl 1 rfl) ?_
  refine lv_if_eq (tgt := 18) hx hb dX13_readExpression_11 (by decide) (fun c9 => ?_) (fun c9 => ?_)
  · have hc5 : p1.toInt = 0 := (fi_eq rfl (show (0 : Int32).toInt = 0 by decide)).mp c9
    refine lv_iconst (v := 1) hx hb dX13_readExpression_18 (by decide) ?_
    refine lv_istore_n (lv' := [(2, .int 1), (0, .ref am), (1, .int p1)]) hx hb dX13_readExpression_19 rfl hl (by decide) rfl (fun ls hl => ?_)
    have hl1085 : ∀ (N_l1085 : Nat) (v261 : Int32) (v262 : Int32) (v263 : Int32) (v264 : Int32) (v265 : Int64) (v266 : Int32) (v267 : Int32) (v268 : Int32) (H : Heap) (locs : List Loc) (F : Nat → Int32) (G : Nat → Int64) (R : Nat → Nat → Int32) (S : Nat → Nat → Int64), (v264.toInt ≤ 3) → (0 ≤ gb.toInt + (-1) * v266.toInt + 1) → (0 ≤ (-1) * p1.toInt + v264.toInt) → (0 ≤ (-1) * p1.toInt + v266.toInt) → (0 ≤ (-1) * p1.toInt + v268.toInt) → (0 ≤ v262.toInt + (-1) * v267.toInt + (-1) * v268.toInt) → (0 ≤ (-1) * gc.toInt + v267.toInt) → (0 ≤ (-1) * gf.toInt + v262.toInt) → (0 ≤ (-1) * v262.toInt + v263.toInt) → (0 ≤ gp.toInt + (-1) * v263.toInt) → (0 ≤ v261.toInt) → (v261.toInt ≤ 4) → (mz_S D cy ad am F G R S H) → (va_S (mz_W ad am) s.heap H locs) → (mz_IF false F) → (mz_IG G) → (mz_IR [] true R) → (∀ k : Nat, k ∉ ([14, 15, 16, 18, 19, 23, 26, 29, 30] : List Nat) → F k = Fa k) → (∀ k : Nat, k ∉ ([17] : List Nat) → G k = Ga k) → (∀ k : Nat, k ∉ ([24, 25, 27, 28] : List Nat) → R k = Ra k) → (F 14 = v262) → (F 15 = v263) → (F 16 = v264) → (F 13 = gp) → (G 17 = v265) → (F 19 = v266) → (F 23 = v267) → (F 29 = v268) → ((1 ≤ v264.toInt → 0 ≤ (-1) * v262.toInt + v263.toInt + (-1))) → ((27 ≤ v265.toInt → 1 ≤ v264.toInt → v264.toInt ≤ 1 → 0 ≤ (-1) * v262.toInt + v263.toInt + (-2))) → ((F 19).toInt = 0 → PT (R 24) (R 25) (R 27) (R 28) zs (F 23).toInt.toNat (F 29).toInt.toNat v261.toInt ∧ low zs (Ra 24) (R 24) ∧ low zs (Ra 25) (R 25)) → (mz_me v266.toInt v261.toInt v262.toInt < (N_l1085 : Int)) → ∀ ls : Array Slot, lv_has ls 3 [(2, .int v261), (0, .ref am), (1, .int p1)] → W p l e ({ frames := 9, cells := 0, slots := 0, locals := 560 }) s m args below meth c H locs 0 0 (MQ below (mz_w D cy ad am (fun F G R S => mz_IF false F ∧ mz_IG G ∧ mz_IR [] true R ∧ (∀ k : Nat, k ∉ ([14, 15, 16, 18, 19, 23, 26, 29, 30] : List Nat) → F k = Fa k) ∧ (∀ k : Nat, k ∉ ([24, 25, 27, 28] : List Nat) → R k = Ra k) ∧ (∀ k : Nat, k ∉ ([17] : List Nat) → G k = Ga k) ∧ 0 ≤ (-1) * (F 14).toInt + (F 15).toInt ∧ 0 ≤ gp.toInt + (-1) * (F 15).toInt ∧ (1 ≤ (F 16).toInt → 0 ≤ (-1) * (F 14).toInt + (F 15).toInt + (-1)) ∧ (27 ≤ (G 17).toInt → 1 ≤ (F 16).toInt → (F 16).toInt ≤ 1 → 0 ≤ (-1) * (F 14).toInt + (F 15).toInt + (-2)) ∧ 0 ≤ (-1) * gf.toInt + (F 14).toInt ∧ 0 ≤ (-1) * (F 23).toInt + (F 14).toInt ∧ 0 ≤ (-1) * gc.toInt + (F 23).toInt ∧ ((F 19).toInt = 0 → WFC (R 24) (R 25) gc.toInt.toNat (F 23).toInt.toNat ∧ low gc.toInt.toNat (Ra 24) (R 24) ∧ low gc.toInt.toNat (Ra 25) (R 25)))) args s 0 0 (mz_W ad am)) (F0 m 20 ls []) := by
      intro N_l1085
      induction N_l1085 with
      | zero => intro v261 v262 v263 v264 v265 v266 v267 v268 H locs F G R S hq0_l1085 hq1_l1085 hq2_l1085 hq3_l1085 hq4_l1085 hq5_l1085 hq6_l1085 hq7_l1085 hq8_l1085 hq9_l1085 hq10_l1085 hq11_l1085 hM hS hIF hIG hIR hFF hGG hRR hg_0 hg_1 hg_2 hg_3 hg_4 hg_5 hg_6 hf2 hc0_l1085 hc1_l1085 hPT hm_l1085 ls hl; exfalso; have h9 := mz_me.nn (b := v266.toInt) (t := v261.toInt) (f := v262.toInt) (by omega) (by omega); omega
      | succ N_l1085 ih_l1085 =>
        intro v261 v262 v263 v264 v265 v266 v267 v268 H locs F G R S hq0_l1085 hq1_l1085 hq2_l1085 hq3_l1085 hq4_l1085 hq5_l1085 hq6_l1085 hq7_l1085 hq8_l1085 hq9_l1085 hq10_l1085 hq11_l1085 hM hS hIF hIG hIR hFF hGG hRR hg_0 hg_1 hg_2 hg_3 hg_4 hg_5 hg_6 hf2 hc0_l1085 hc1_l1085 hPT hm_l1085 ls hl
        refine lv_aload_n hx hb dX13_readExpression_20 rfl (lv_at hl 1 rfl) ?_
        refine mz_getI hx hb htl hown hK hM 19 (Nat.le_of_ble_eq_true rfl) rfl (htl _ mw_668) (fun _ h9 => h9) dX13_readExpression_21 (fun v9 e9 => ?_)
        refine fx_ti (v := v266) (e9.symm.trans hg_5) ?_
        refine lv_if_ne (tgt := 76) hx hb dX13_readExpression_24 (by decide) (fun c9 => ?_) (fun c9 => ?_)
        · have hc1086 : ¬ (v266.toInt = 0) := fun h9 => c9 ((fi_eq rfl (show (0 : Int32).toInt = 0 by decide)).mpr h9)
          refine lv_aload_n hx hb dX13_readExpression_76 rfl (lv_at hl 1 rfl) ?_
          refine lv_iconst (v := 1) hx hb dX13_readExpression_77 (by decide) ?_
          have hk_1 : (1 : Int32).toInt = 1 := by decide
          refine mz_Vv (As := [.int 1]) (rest := []) ⟨hx, hb, hml, hown, hts⟩ hK hM hS (k_X13_settle l D cy ld ad am hD _ _ _ _ 1 v267 v268 v266 zs hIF hIG hIR hg_6 hf2 hg_5 (by omega) (by omega) (by omega) (fun h9 => absurd h9 (by omega))) ⟨callB_of 1 hts (wl_in mw_773) rfl rfl rfl (htl _ mw_5) (htl _ mw_770) hd_yX13_settle ⟨(Nat.le_of_ble_eq_true rfl), (Nat.le_of_ble_eq_true rfl)⟩, htl _ mw_771, htl _ mw_772⟩ rfl hl.1 rfl (Nat.le_of_ble_eq_true rfl) dX13_readExpression_78 ⟨(Nat.le_of_ble_eq_true rfl), (Nat.le_of_ble_eq_true rfl)⟩ (fun H locs F G R S hpo hM hS => ?_)
          obtain ⟨hIF, hIG, hIR, hfr9, hrr9, hgr9, hpo1087, hpo1088, hpo1089, hx1090, hx1091, hx1092⟩ := hpo
          have hFF := mz_fr (K := [14, 15, 16, 18, 19, 23, 26, 29, 30]) (Fa := Fa) hfr9 hFF (by decide)
          have hRR := mz_fr (K := [24, 25, 27, 28]) (Fa := Ra) hrr9 hRR (by decide)
          have hGG := mz_fr (K := [17]) (Fa := Ga) hgr9 hGG (by decide)
          have hg_0 := (hfr9 14 (by decide)).trans hg_0
          have hg_1 := (hfr9 15 (by decide)).trans hg_1
          have hg_2 := (hfr9 16 (by decide)).trans hg_2
          have hg_3 := (hfr9 13 (by decide)).trans hg_3
          have hg_4 := (hgr9 17 (by decide)).trans hg_4
          have hg_5 := (hfr9 19 (by decide)).trans hg_5
          obtain ⟨v1095, hf1094⟩ : ∃ z : Int32, F 23 = z := ⟨_, rfl⟩
          have hq_v1095 := tk_rng v1095
          rw [hf1094] at hpo1087 hpo1089
          have hr_v1095 : 0 ≤ v1095.toInt ∧ v1095.toInt ≤ 400 := hIF.at hf1094
          obtain ⟨v1097, hf1096⟩ : ∃ z : Int32, F 29 = z := ⟨_, rfl⟩
          have hq_v1097 := tk_rng v1097
          rw [hf1096] at hpo1087 hpo1088
          have hr_v1097 : 0 ≤ v1097.toInt ∧ v1097.toInt ≤ 400 := hIF.at hf1096
          exact mz_vret hx hb hr hlocks ⟨hIF, hIG, hIR, hFF, hRR, hGG, (by rw [hg_0, hg_1]; omega), (by rw [hg_1]; omega), (by rw [hg_0, hg_1, hg_2]; omega), (by rw [hg_0, hg_1, hg_2, hg_4]; omega), (by rw [hg_0]; omega), (by rw [hg_0, hf1094]; omega), (by rw [hf1094]; omega), (by rw [hg_5]; exact fun h9 => absurd h9 (by omega))⟩ hM hS dX13_readExpression_81
        · have hc1086 : v266.toInt = 0 := (fi_eq rfl (show (0 : Int32).toInt = 0 by decide)).mp c9
          refine lv_iload_n hx hb dX13_readExpression_27 rfl (lv_at hl 0 rfl) ?_
          refine lv_iconst (v := 4) hx hb dX13_readExpression_28 (by decide) ?_
          refine lv_icmp_eq (tgt := 76) hx hb dX13_readExpression_29 (by decide) (fun c9 => ?_) (fun c9 => ?_)
          · have hc1098 : v261.toInt = 4 := (fi_eq rfl (show (4 : Int32).toInt = 4 by decide)).mp c9
            refine lv_aload_n hx hb dX13_readExpression_76 rfl (lv_at hl 1 rfl) ?_
            refine lv_iconst (v := 1) hx hb dX13_readExpression_77 (by decide) ?_
            have hPT := hPT (by rw [hg_5]; omega)
            have hPTT := hPT.1.2.2 (by omega)
            have hL7 := hPT.2
            have hPT : (F 19).toInt = 0 → _ := fun _ => hPT
            rw [hf2] at hPTT
            have hk_1 : (1 : Int32).toInt = 1 := by decide
            refine mz_Vv (As := [.int 1]) (rest := []) ⟨hx, hb, hml, hown, hts⟩ hK hM hS (k_X13_settle l D cy ld ad am hD _ _ _ _ 1 v267 v268 v266 zs hIF hIG hIR hg_6 hf2 hg_5 (by omega) (by omega) (by omega) (fun h9 => by have h8 := (hPT (by rw [hg_5]; omega)).1.p (c := 1) (by rw [show v261.toInt = 4 by omega]; decide); rw [hg_6, hf2] at h8; exact h8)) ⟨callB_of 1 hts (wl_in mw_773) rfl rfl rfl (htl _ mw_5) (htl _ mw_770) hd_yX13_settle ⟨(Nat.le_of_ble_eq_true rfl), (Nat.le_of_ble_eq_true rfl)⟩, htl _ mw_771, htl _ mw_772⟩ rfl hl.1 rfl (Nat.le_of_ble_eq_true rfl) dX13_readExpression_78 ⟨(Nat.le_of_ble_eq_true rfl), (Nat.le_of_ble_eq_true rfl)⟩ (fun H locs F G R S hpo hM hS => ?_)
            obtain ⟨hIF, hIG, hIR, hfr9, hrr9, hgr9, hpo1099, hpo1100, hpo1101, hx1102, hx1103, hx1104⟩ := hpo
            have hFF := mz_fr (K := [14, 15, 16, 18, 19, 23, 26, 29, 30]) (Fa := Fa) hfr9 hFF (by decide)
            have hRR := mz_fr (K := [24, 25, 27, 28]) (Fa := Ra) hrr9 hRR (by decide)
            have hGG := mz_fr (K := [17]) (Fa := Ga) hgr9 hGG (by decide)
            have hg_0 := (hfr9 14 (by decide)).trans hg_0
            have hg_1 := (hfr9 15 (by decide)).trans hg_1
            have hg_2 := (hfr9 16 (by decide)).trans hg_2
            have hg_3 := (hfr9 13 (by decide)).trans hg_3
            have hg_4 := (hgr9 17 (by decide)).trans hg_4
            have hg_5 := (hfr9 19 (by decide)).trans hg_5
            obtain ⟨v1107, hf1106⟩ : ∃ z : Int32, F 23 = z := ⟨_, rfl⟩
            have hq_v1107 := tk_rng v1107
            rw [hf1106] at hpo1099 hpo1101
            have hr_v1107 : 0 ≤ v1107.toInt ∧ v1107.toInt ≤ 400 := hIF.at hf1106
            obtain ⟨v1109, hf1108⟩ : ∃ z : Int32, F 29 = z := ⟨_, rfl⟩
            have hq_v1109 := tk_rng v1109
            rw [hf1108] at hpo1099 hpo1100
            have hr_v1109 : 0 ≤ v1109.toInt ∧ v1109.toInt ≤ 400 := hIF.at hf1108
            have hs9 := hx1102 (by omega)
            rw [hf1106, hf1108] at hs9
            rw [hf1108] at hx1104
            have hd0 : v1109.toInt.toNat = 0 := by
              by_cases h9 : 1 ≤ v1109.toInt
              · have h8 := (hx1104 h9).1 (by decide)
                have h7 := hPTT (v1109.toInt - 1).toNat (by omega)
                omega
              · omega
            have hL8 := hL7
            exact mz_vret hx hb hr hlocks ⟨hIF, hIG, hIR, hFF, hRR, hGG, (by rw [hg_0, hg_1]; omega), (by rw [hg_1]; omega), (by rw [hg_0, hg_1, hg_2]; omega), (by rw [hg_0, hg_1, hg_2, hg_4]; omega), (by rw [hg_0]; omega), (by rw [hg_0, hf1106]; omega), (by rw [hf1106]; omega), (fun _ => ⟨by rw [hf1106, ← hzs]; exact PT.over hs9.1 hd0, by rw [← hzs]; exact hL8.1.trans hs9.2.1 (Nat.le_refl _), by rw [← hzs]; exact hL8.2.trans hs9.2.2 (Nat.le_refl _)⟩)⟩ hM hS dX13_readExpression_81
          · have hc1098 : ¬ (v261.toInt = 4) := fun h9 => c9 ((fi_eq rfl (show (4 : Int32).toInt = 4 by decide)).mpr h9)
            refine lv_iload_n hx hb dX13_readExpression_32 rfl (lv_at hl 0 rfl) ?_
            refine lv_if_ne (tgt := 43) hx hb dX13_readExpression_33 (by decide) (fun c9 => ?_) (fun c9 => ?_)
            · have hc1110 : ¬ (v261.toInt = 0) := fun h9 => c9 ((fi_eq rfl (show (0 : Int32).toInt = 0 by decide)).mpr h9)
              refine lv_iload_n hx hb dX13_readExpression_43 rfl (lv_at hl 0 rfl) ?_
              refine lv_iconst (v := 1) hx hb dX13_readExpression_44 (by decide) ?_
              refine lv_icmp_ne (tgt := 55) hx hb dX13_readExpression_45 (by decide) (fun c9 => ?_) (fun c9 => ?_)
              · have hc1111 : ¬ (v261.toInt = 1) := fun h9 => c9 ((fi_eq rfl (show (1 : Int32).toInt = 1 by decide)).mpr h9)
                refine lv_iload_n hx hb dX13_readExpression_55 rfl (lv_at hl 0 rfl) ?_
                refine lv_iconst (v := 3) hx hb dX13_readExpression_56 (by decide) ?_
                refine lv_icmp_ne (tgt := 68) hx hb dX13_readExpression_57 (by decide) (fun c9 => ?_) (fun c9 => ?_)
                · have hc1112 : ¬ (v261.toInt = 3) := fun h9 => c9 ((fi_eq rfl (show (3 : Int32).toInt = 3 by decide)).mpr h9)
                  refine lv_aload_n hx hb dX13_readExpression_68 rfl (lv_at hl 1 rfl) ?_
                  have hL9 := (hPT (by rw [hg_5]; omega)).2
                  refine mz_Vi (As := []) (rest := []) ⟨hx, hb, hml, hown, hts⟩ hK hM hS (k_X13_behindTest l D cy ld ad am hD _ _ _ _ v262 v263 v264 gp v265 v266 v267 v268 zs hIF hIG hIR hg_0 hg_1 hg_2 hg_3 hg_4 hg_5 hg_6 hf2 (by omega) (by omega) (by omega) (by omega) (by omega) (by omega) (by have h9 := (hPT (by rw [hg_5]; omega)).1; rw [hg_6, hf2, show v261.toInt = 2 by omega] at h9; exact h9)) ⟨callB_of 0 hts (wl_in mw_789) rfl rfl rfl (htl _ mw_5) (htl _ mw_786) hd_yX13_behindTest ⟨(Nat.le_of_ble_eq_true rfl), (Nat.le_of_ble_eq_true rfl)⟩, htl _ mw_787, htl _ mw_788⟩ rfl hl.1 rfl (Nat.le_of_ble_eq_true rfl) dX13_readExpression_69 ⟨(Nat.le_of_ble_eq_true rfl), (Nat.le_of_ble_eq_true rfl)⟩ (fun v1113 H locs F G R S hpo hM hS => ?_)
                  obtain ⟨hIF, hIG, hIR, hfr9, hrr9, hgr9, hpo1114, hpo1115, hpo1116, hpo1117, hpo1118, hpo1119, hpo1120, hpo1121, hpo1122, hpo1123, hx1124⟩ := hpo
                  have hq_v1113 := tk_rng v1113
                  have hFF := mz_fr (K := [14, 15, 16, 18, 19, 23, 26, 29, 30]) (Fa := Fa) hfr9 hFF (by decide)
                  have hRR := mz_fr (K := [24, 25, 27, 28]) (Fa := Ra) hrr9 hRR (by decide)
                  have hGG := mz_fr (K := [17]) (Fa := Ga) hgr9 hGG (by decide)
                  have hg_3 := (hfr9 13 (by decide)).trans hg_3
                  obtain ⟨v1127, hf1126⟩ : ∃ z : Int32, F 14 = z := ⟨_, rfl⟩
                  have hq_v1127 := tk_rng v1127
                  rw [hf1126] at hpo1114 hpo1116 hpo1117 hpo1118 hpo1119 hpo1121
                  have hr_v1127 : 0 ≤ v1127.toInt ∧ v1127.toInt ≤ 400 := hIF.at hf1126
                  obtain ⟨v1129, hf1128⟩ : ∃ z : Int32, F 15 = z := ⟨_, rfl⟩
                  have hq_v1129 := tk_rng v1129
                  rw [hf1128] at hpo1114 hpo1115 hpo1116 hpo1117
                  have hr_v1129 : 0 ≤ v1129.toInt ∧ v1129.toInt ≤ 400 := hIF.at hf1128
                  obtain ⟨v1131, hf1130⟩ : ∃ z : Int32, F 16 = z := ⟨_, rfl⟩
                  have hq_v1131 := tk_rng v1131
                  rw [hf1130] at hpo1116 hpo1117
                  have hr_v1131 : 0 ≤ v1131.toInt ∧ v1131.toInt ≤ 3 := hIF.at hf1130
                  obtain ⟨w1133, hf1132⟩ : ∃ z : Int64, G 17 = z := ⟨_, rfl⟩
                  have hq_w1133 := tk_rngL w1133
                  rw [hf1132] at hpo1117
                  obtain ⟨v1135, hf1134⟩ : ∃ z : Int32, F 19 = z := ⟨_, rfl⟩
                  have hq_v1135 := tk_rng v1135
                  rw [hf1134] at hpo1121
                  have hr_v1135 : 0 ≤ v1135.toInt ∧ v1135.toInt ≤ 1 := hIF.at hf1134
                  obtain ⟨v1137, hf1136⟩ : ∃ z : Int32, F 23 = z := ⟨_, rfl⟩
                  have hq_v1137 := tk_rng v1137
                  rw [hf1136] at hpo1119 hpo1120
                  have hr_v1137 : 0 ≤ v1137.toInt ∧ v1137.toInt ≤ 400 := hIF.at hf1136
                  obtain ⟨v1139, hf1138⟩ : ∃ z : Int32, F 29 = z := ⟨_, rfl⟩
                  have hq_v1139 := tk_rng v1139
                  rw [hf1138] at hpo1119
                  have hr_v1139 : 0 ≤ v1139.toInt ∧ v1139.toInt ≤ 400 := hIF.at hf1138
                  have hPT : (F 19).toInt = 0 → PT (R 24) (R 25) (R 27) (R 28) zs (F 23).toInt.toNat (F 29).toInt.toNat v1113.toInt ∧ low zs (Ra 24) (R 24) ∧ low zs (Ra 25) (R 25) := fun h9 => ⟨(hx1124 h9).1, hL9.1.trans (hx1124 h9).2.1 (Nat.le_refl _), hL9.2.trans (hx1124 h9).2.2 (Nat.le_refl _)⟩
                  refine lv_istore_n (lv' := [(2, .int v1113), (0, .ref am), (1, .int p1)]) hx hb dX13_readExpression_72 rfl hl (by decide) rfl (fun ls hl => ?_)
                  refine lv_goto (tgt := 20) hx hb dX13_readExpression_73 (by decide) ?_
                  exact ih_l1085 v1113 v1127 v1129 v1131 w1133 v1135 v1137 v1139 _ _ _ _ _ _ (by omega) (by omega) (by omega) (by omega) (by omega) (by omega) (by omega) (by omega) (by omega) (by omega) (by omega) (by omega) hM hS hIF hIG hIR hFF hGG hRR hf1126 hf1128 hf1130 hg_3 hf1132 hf1134 hf1136 hf1138 (by omega) (by omega) hPT (mz_me.lt hm_l1085 (by omega) (by omega) (by omega) (by omega) (by omega)) _ (lv_sub hl [0, 1, 2] rfl)
                · have hc1112 : v261.toInt = 3 := (fi_eq rfl (show (3 : Int32).toInt = 3 by decide)).mp c9
                  refine lv_aload_n hx hb dX13_readExpression_60 rfl (lv_at hl 1 rfl) ?_
                  refine lv_iload_n hx hb dX13_readExpression_61 rfl (lv_at hl 2 rfl) ?_
                  have hL9 := (hPT (by rw [hg_5]; omega)).2
                  refine mz_Vi (As := [.int p1]) (rest := []) ⟨hx, hb, hml, hown, hts⟩ hK hM hS (k_X13_behindSum l D cy ld ad am hD _ _ _ _ p1 v262 v263 v264 gp v265 v266 v267 v268 zs hIF hIG hIR hg_0 hg_1 hg_2 hg_3 hg_4 hg_5 hg_6 hf2 (by omega) (by omega) (by omega) (by omega) (by omega) (by omega) (by omega) (by omega) (by have h9 := (hPT (by rw [hg_5]; omega)).1; rw [hg_6, hf2, show v261.toInt = 3 by omega] at h9; exact h9)) ⟨callB_of 1 hts (wl_in mw_766) rfl rfl rfl (htl _ mw_5) (htl _ mw_763) hd_yX13_behindSum ⟨(Nat.le_of_ble_eq_true rfl), (Nat.le_of_ble_eq_true rfl)⟩, htl _ mw_764, htl _ mw_765⟩ rfl hl.1 rfl (Nat.le_of_ble_eq_true rfl) dX13_readExpression_62 ⟨(Nat.le_of_ble_eq_true rfl), (Nat.le_of_ble_eq_true rfl)⟩ (fun v1140 H locs F G R S hpo hM hS => ?_)
                  obtain ⟨hIF, hIG, hIR, hfr9, hrr9, hgr9, hpo1141, hpo1142, hpo1143, hpo1144, hpo1145, hpo1146, hpo1147, hpo1148, hpo1149, hpo1150, hpo1151, hx1152⟩ := hpo
                  have hq_v1140 := tk_rng v1140
                  have hFF := mz_fr (K := [14, 15, 16, 18, 19, 23, 26, 29, 30]) (Fa := Fa) hfr9 hFF (by decide)
                  have hRR := mz_fr (K := [24, 25, 27, 28]) (Fa := Ra) hrr9 hRR (by decide)
                  have hGG := mz_fr (K := [17]) (Fa := Ga) hgr9 hGG (by decide)
                  have hg_3 := (hfr9 13 (by decide)).trans hg_3
                  obtain ⟨v1155, hf1154⟩ : ∃ z : Int32, F 14 = z := ⟨_, rfl⟩
                  have hq_v1155 := tk_rng v1155
                  rw [hf1154] at hpo1141 hpo1143 hpo1144 hpo1145 hpo1146 hpo1148 hpo1149
                  have hr_v1155 : 0 ≤ v1155.toInt ∧ v1155.toInt ≤ 400 := hIF.at hf1154
                  obtain ⟨v1157, hf1156⟩ : ∃ z : Int32, F 15 = z := ⟨_, rfl⟩
                  have hq_v1157 := tk_rng v1157
                  rw [hf1156] at hpo1141 hpo1142 hpo1143 hpo1144
                  have hr_v1157 : 0 ≤ v1157.toInt ∧ v1157.toInt ≤ 400 := hIF.at hf1156
                  obtain ⟨v1159, hf1158⟩ : ∃ z : Int32, F 16 = z := ⟨_, rfl⟩
                  have hq_v1159 := tk_rng v1159
                  rw [hf1158] at hpo1143 hpo1144
                  have hr_v1159 : 0 ≤ v1159.toInt ∧ v1159.toInt ≤ 3 := hIF.at hf1158
                  obtain ⟨w1161, hf1160⟩ : ∃ z : Int64, G 17 = z := ⟨_, rfl⟩
                  have hq_w1161 := tk_rngL w1161
                  rw [hf1160] at hpo1144
                  obtain ⟨v1163, hf1162⟩ : ∃ z : Int32, F 19 = z := ⟨_, rfl⟩
                  have hq_v1163 := tk_rng v1163
                  rw [hf1162] at hpo1148 hpo1149
                  have hr_v1163 : 0 ≤ v1163.toInt ∧ v1163.toInt ≤ 1 := hIF.at hf1162
                  obtain ⟨v1165, hf1164⟩ : ∃ z : Int32, F 23 = z := ⟨_, rfl⟩
                  have hq_v1165 := tk_rng v1165
                  rw [hf1164] at hpo1146 hpo1147
                  have hr_v1165 : 0 ≤ v1165.toInt ∧ v1165.toInt ≤ 400 := hIF.at hf1164
                  obtain ⟨v1167, hf1166⟩ : ∃ z : Int32, F 29 = z := ⟨_, rfl⟩
                  have hq_v1167 := tk_rng v1167
                  rw [hf1166] at hpo1146
                  have hr_v1167 : 0 ≤ v1167.toInt ∧ v1167.toInt ≤ 400 := hIF.at hf1166
                  have hPT : (F 19).toInt = 0 → PT (R 24) (R 25) (R 27) (R 28) zs (F 23).toInt.toNat (F 29).toInt.toNat v1140.toInt ∧ low zs (Ra 24) (R 24) ∧ low zs (Ra 25) (R 25) := fun h9 => ⟨(hx1152 h9).1, hL9.1.trans (hx1152 h9).2.1 (Nat.le_refl _), hL9.2.trans (hx1152 h9).2.2 (Nat.le_refl _)⟩
                  refine lv_goto (tgt := 72) hx hb dX13_readExpression_65 (by decide) ?_
                  refine lv_istore_n (lv' := [(2, .int v1140), (0, .ref am), (1, .int p1)]) hx hb dX13_readExpression_72 rfl hl (by decide) rfl (fun ls hl => ?_)
                  refine lv_goto (tgt := 20) hx hb dX13_readExpression_73 (by decide) ?_
                  exact ih_l1085 v1140 v1155 v1157 v1159 w1161 v1163 v1165 v1167 _ _ _ _ _ _ (by omega) (by omega) (by omega) (by omega) (by omega) (by omega) (by omega) (by omega) (by omega) (by omega) (by omega) (by omega) hM hS hIF hIG hIR hFF hGG hRR hf1154 hf1156 hf1158 hg_3 hf1160 hf1162 hf1164 hf1166 (by omega) (by omega) hPT (mz_me.lt hm_l1085 (by omega) (by omega) (by omega) (by omega) (by omega)) _ (lv_sub hl [0, 1, 2] rfl)
              · have hc1111 : v261.toInt = 1 := (fi_eq rfl (show (1 : Int32).toInt = 1 by decide)).mp c9
                refine lv_aload_n hx hb dX13_readExpression_48 rfl (lv_at hl 1 rfl) ?_
                have hL9 := (hPT (by rw [hg_5]; omega)).2
                refine mz_Vi (As := []) (rest := []) ⟨hx, hb, hml, hown, hts⟩ hK hM hS (k_X13_readPart l D cy ld ad am hD _ _ _ _ v262 v263 v264 gp v265 v266 v267 v268 zs hIF hIG hIR hg_0 hg_1 hg_2 hg_3 hg_4 hg_5 hg_6 hf2 (by omega) (by omega) (by omega) (by omega) (by omega) (by omega) (by have h9 := (hPT (by rw [hg_5]; omega)).1.p (c := 0) (by rw [show v261.toInt = 1 by omega]; decide); rw [hg_6, hf2] at h9; exact h9)) ⟨callB_of 0 hts (wl_in mw_740) rfl rfl rfl (htl _ mw_5) (htl _ mw_737) hd_yX13_readPart ⟨(Nat.le_of_ble_eq_true rfl), (Nat.le_of_ble_eq_true rfl)⟩, htl _ mw_738, htl _ mw_739⟩ rfl hl.1 rfl (Nat.le_of_ble_eq_true rfl) dX13_readExpression_49 ⟨(Nat.le_of_ble_eq_true rfl), (Nat.le_of_ble_eq_true rfl)⟩ (fun v1168 H locs F G R S hpo hM hS => ?_)
                obtain ⟨hIF, hIG, hIR, hfr9, hrr9, hgr9, hpo1169, hpo1170, hpo1171, hpo1172, hpo1173, hpo1174, hpo1175, hpo1176, hpo1177, hpo1178, hx1179⟩ := hpo
                have hq_v1168 := tk_rng v1168
                have hFF := mz_fr (K := [14, 15, 16, 18, 19, 23, 26, 29, 30]) (Fa := Fa) hfr9 hFF (by decide)
                have hRR := mz_fr (K := [24, 25, 27, 28]) (Fa := Ra) hrr9 hRR (by decide)
                have hGG := mz_fr (K := [17]) (Fa := Ga) hgr9 hGG (by decide)
                have hg_3 := (hfr9 13 (by decide)).trans hg_3
                obtain ⟨v1182, hf1181⟩ : ∃ z : Int32, F 14 = z := ⟨_, rfl⟩
                have hq_v1182 := tk_rng v1182
                rw [hf1181] at hpo1169 hpo1171 hpo1172 hpo1173 hpo1174 hpo1176
                have hr_v1182 : 0 ≤ v1182.toInt ∧ v1182.toInt ≤ 400 := hIF.at hf1181
                obtain ⟨v1184, hf1183⟩ : ∃ z : Int32, F 15 = z := ⟨_, rfl⟩
                have hq_v1184 := tk_rng v1184
                rw [hf1183] at hpo1169 hpo1170 hpo1171 hpo1172
                have hr_v1184 : 0 ≤ v1184.toInt ∧ v1184.toInt ≤ 400 := hIF.at hf1183
                obtain ⟨v1186, hf1185⟩ : ∃ z : Int32, F 16 = z := ⟨_, rfl⟩
                have hq_v1186 := tk_rng v1186
                rw [hf1185] at hpo1171 hpo1172
                have hr_v1186 : 0 ≤ v1186.toInt ∧ v1186.toInt ≤ 3 := hIF.at hf1185
                obtain ⟨w1188, hf1187⟩ : ∃ z : Int64, G 17 = z := ⟨_, rfl⟩
                have hq_w1188 := tk_rngL w1188
                rw [hf1187] at hpo1172
                obtain ⟨v1190, hf1189⟩ : ∃ z : Int32, F 19 = z := ⟨_, rfl⟩
                have hq_v1190 := tk_rng v1190
                rw [hf1189] at hpo1176
                have hr_v1190 : 0 ≤ v1190.toInt ∧ v1190.toInt ≤ 1 := hIF.at hf1189
                obtain ⟨v1192, hf1191⟩ : ∃ z : Int32, F 23 = z := ⟨_, rfl⟩
                have hq_v1192 := tk_rng v1192
                rw [hf1191] at hpo1174 hpo1175
                have hr_v1192 : 0 ≤ v1192.toInt ∧ v1192.toInt ≤ 400 := hIF.at hf1191
                obtain ⟨v1194, hf1193⟩ : ∃ z : Int32, F 29 = z := ⟨_, rfl⟩
                have hq_v1194 := tk_rng v1194
                rw [hf1193] at hpo1174
                have hr_v1194 : 0 ≤ v1194.toInt ∧ v1194.toInt ≤ 400 := hIF.at hf1193
                have hPT : (F 19).toInt = 0 → PT (R 24) (R 25) (R 27) (R 28) zs (F 23).toInt.toNat (F 29).toInt.toNat v1168.toInt ∧ low zs (Ra 24) (R 24) ∧ low zs (Ra 25) (R 25) := fun h9 => ⟨(hx1179 h9).1, hL9.1.trans (hx1179 h9).2.1 (Nat.le_refl _), hL9.2.trans (hx1179 h9).2.2 (Nat.le_refl _)⟩
                refine lv_goto (tgt := 72) hx hb dX13_readExpression_52 (by decide) ?_
                refine lv_istore_n (lv' := [(2, .int v1168), (0, .ref am), (1, .int p1)]) hx hb dX13_readExpression_72 rfl hl (by decide) rfl (fun ls hl => ?_)
                refine lv_goto (tgt := 20) hx hb dX13_readExpression_73 (by decide) ?_
                exact ih_l1085 v1168 v1182 v1184 v1186 w1188 v1190 v1192 v1194 _ _ _ _ _ _ (by omega) (by omega) (by omega) (by omega) (by omega) (by omega) (by omega) (by omega) (by omega) (by omega) (by omega) (by omega) hM hS hIF hIG hIR hFF hGG hRR hf1181 hf1183 hf1185 hg_3 hf1187 hf1189 hf1191 hf1193 (by omega) (by omega) hPT (mz_me.lt hm_l1085 (by omega) (by omega) (by omega) (by omega) (by omega)) _ (lv_sub hl [0, 1, 2] rfl)
            · have hc1110 : v261.toInt = 0 := (fi_eq rfl (show (0 : Int32).toInt = 0 by decide)).mp c9
              refine lv_aload_n hx hb dX13_readExpression_36 rfl (lv_at hl 1 rfl) ?_
              have hL9 := (hPT (by rw [hg_5]; omega)).2
              refine mz_Vi (As := []) (rest := []) ⟨hx, hb, hml, hown, hts⟩ hK hM hS (k_X13_readPlain l D cy ld ad am hD _ _ _ _ v262 v263 v264 gp v265 v266 v267 v268 zs hIF hIG hIR hg_0 hg_1 hg_2 hg_3 hg_4 hg_5 hg_6 hf2 (by omega) (by omega) (by omega) (by omega) (by omega) (by omega) (by have h9 := (hPT (by rw [hg_5]; omega)).1; rw [hg_6, hf2, show v261.toInt = 0 by omega] at h9; exact h9)) ⟨callB_of 0 hts (wl_in mw_723) rfl rfl rfl (htl _ mw_5) (htl _ mw_720) hd_yX13_readPlain ⟨(Nat.le_of_ble_eq_true rfl), (Nat.le_of_ble_eq_true rfl)⟩, htl _ mw_721, htl _ mw_722⟩ rfl hl.1 rfl (Nat.le_of_ble_eq_true rfl) dX13_readExpression_37 ⟨(Nat.le_of_ble_eq_true rfl), (Nat.le_of_ble_eq_true rfl)⟩ (fun v1195 H locs F G R S hpo hM hS => ?_)
              obtain ⟨hIF, hIG, hIR, hfr9, hrr9, hgr9, hpo1196, hpo1197, hpo1198, hpo1199, hpo1200, hpo1201, hpo1202, hpo1203, hpo1204, hpo1205, hx1206⟩ := hpo
              have hq_v1195 := tk_rng v1195
              have hFF := mz_fr (K := [14, 15, 16, 18, 19, 23, 26, 29, 30]) (Fa := Fa) hfr9 hFF (by decide)
              have hRR := mz_fr (K := [24, 25, 27, 28]) (Fa := Ra) hrr9 hRR (by decide)
              have hGG := mz_fr (K := [17]) (Fa := Ga) hgr9 hGG (by decide)
              have hg_3 := (hfr9 13 (by decide)).trans hg_3
              obtain ⟨v1209, hf1208⟩ : ∃ z : Int32, F 14 = z := ⟨_, rfl⟩
              have hq_v1209 := tk_rng v1209
              rw [hf1208] at hpo1196 hpo1198 hpo1199 hpo1200 hpo1201 hpo1203
              have hr_v1209 : 0 ≤ v1209.toInt ∧ v1209.toInt ≤ 400 := hIF.at hf1208
              obtain ⟨v1211, hf1210⟩ : ∃ z : Int32, F 15 = z := ⟨_, rfl⟩
              have hq_v1211 := tk_rng v1211
              rw [hf1210] at hpo1196 hpo1197 hpo1198 hpo1199
              have hr_v1211 : 0 ≤ v1211.toInt ∧ v1211.toInt ≤ 400 := hIF.at hf1210
              obtain ⟨v1213, hf1212⟩ : ∃ z : Int32, F 16 = z := ⟨_, rfl⟩
              have hq_v1213 := tk_rng v1213
              rw [hf1212] at hpo1198 hpo1199
              have hr_v1213 : 0 ≤ v1213.toInt ∧ v1213.toInt ≤ 3 := hIF.at hf1212
              obtain ⟨w1215, hf1214⟩ : ∃ z : Int64, G 17 = z := ⟨_, rfl⟩
              have hq_w1215 := tk_rngL w1215
              rw [hf1214] at hpo1199
              obtain ⟨v1217, hf1216⟩ : ∃ z : Int32, F 19 = z := ⟨_, rfl⟩
              have hq_v1217 := tk_rng v1217
              rw [hf1216] at hpo1203
              have hr_v1217 : 0 ≤ v1217.toInt ∧ v1217.toInt ≤ 1 := hIF.at hf1216
              obtain ⟨v1219, hf1218⟩ : ∃ z : Int32, F 23 = z := ⟨_, rfl⟩
              have hq_v1219 := tk_rng v1219
              rw [hf1218] at hpo1201 hpo1202
              have hr_v1219 : 0 ≤ v1219.toInt ∧ v1219.toInt ≤ 400 := hIF.at hf1218
              obtain ⟨v1221, hf1220⟩ : ∃ z : Int32, F 29 = z := ⟨_, rfl⟩
              have hq_v1221 := tk_rng v1221
              rw [hf1220] at hpo1201
              have hr_v1221 : 0 ≤ v1221.toInt ∧ v1221.toInt ≤ 400 := hIF.at hf1220
              have hPT : (F 19).toInt = 0 → PT (R 24) (R 25) (R 27) (R 28) zs (F 23).toInt.toNat (F 29).toInt.toNat v1195.toInt ∧ low zs (Ra 24) (R 24) ∧ low zs (Ra 25) (R 25) := fun h9 => ⟨(hx1206 h9).1, hL9.1.trans (hx1206 h9).2.1 (Nat.le_refl _), hL9.2.trans (hx1206 h9).2.2 (Nat.le_refl _)⟩
              refine lv_goto (tgt := 72) hx hb dX13_readExpression_40 (by decide) ?_
              refine lv_istore_n (lv' := [(2, .int v1195), (0, .ref am), (1, .int p1)]) hx hb dX13_readExpression_72 rfl hl (by decide) rfl (fun ls hl => ?_)
              refine lv_goto (tgt := 20) hx hb dX13_readExpression_73 (by decide) ?_
              exact ih_l1085 v1195 v1209 v1211 v1213 w1215 v1217 v1219 v1221 _ _ _ _ _ _ (by omega) (by omega) (by omega) (by omega) (by omega) (by omega) (by omega) (by omega) (by omega) (by omega) (by omega) (by omega) hM hS hIF hIG hIR hFF hGG hRR hf1208 hf1210 hf1212 hg_3 hf1214 hf1216 hf1218 hf1220 (by omega) (by omega) hPT (mz_me.lt hm_l1085 (by omega) (by omega) (by omega) (by omega) (by omega)) _ (lv_sub hl [0, 1, 2] rfl)
    have hk_1 : (1 : Int32).toInt = 1 := by decide
    have hk_0 : (0 : Int32).toInt = 0 := by decide
    have hk_1 : (1 : Int32).toInt = 1 := by decide
    exact hl1085 2011 1 gf gt gs gw gb gc 0 _ _ _ _ _ _ (by omega) (by omega) (by omega) (by omega) (by omega) (by omega) (by omega) (by omega) (by omega) (by omega) (by omega) (by omega) hM hS hIF hIG hIR hFF (fun _ _ => rfl) (fun _ _ => rfl) hg_0 hg_1 hg_2 hg_3 hg_4 hg_5 hg_6 hf2 (by omega) (by omega) (fun _ => ⟨PT.mk hPI0 (by decide) (fun _ i h9 => absurd h9 (by rw [show (F 29).toInt = 0 by rw [hf2]; decide]; exact Nat.not_lt_zero _)) (fun h9 => absurd h9 (by decide)) rfl rfl rfl rfl rfl rfl, low.refl _ _, low.refl _ _⟩) (mz_me.le (by omega) (by omega)) _ (lv_sub hl [0, 1, 2] rfl)
  · have hc5 : ¬ (p1.toInt = 0) := fun h9 => c9 ((fi_eq rfl (show (0 : Int32).toInt = 0 by decide)).mpr h9)
    refine lv_iconst (v := 0) hx hb dX13_readExpression_14 (by decide) ?_
    refine lv_goto (tgt := 19) hx hb dX13_readExpression_15 (by decide) ?_
    refine lv_istore_n (lv' := [(2, .int 0), (0, .ref am), (1, .int p1)]) hx hb dX13_readExpression_19 rfl hl (by decide) rfl (fun ls hl => ?_)
    have hl1938 : ∀ (N_l1938 : Nat) (v1222 : Int32) (v1223 : Int32) (v1224 : Int32) (v1225 : Int32) (v1226 : Int64) (v1227 : Int32) (v1228 : Int32) (v1229 : Int32) (H : Heap) (locs : List Loc) (F : Nat → Int32) (G : Nat → Int64) (R : Nat → Nat → Int32) (S : Nat → Nat → Int64), (v1225.toInt ≤ 3) → (0 ≤ gb.toInt + (-1) * v1227.toInt + 1) → (0 ≤ (-1) * p1.toInt + v1225.toInt + 1) → (0 ≤ (-1) * p1.toInt + v1227.toInt + 1) → (0 ≤ (-1) * p1.toInt + v1229.toInt + 1) → (0 ≤ v1223.toInt + (-1) * v1228.toInt + (-1) * v1229.toInt) → (0 ≤ (-1) * gc.toInt + v1228.toInt) → (0 ≤ (-1) * gf.toInt + v1223.toInt) → (0 ≤ (-1) * v1223.toInt + v1224.toInt) → (0 ≤ gp.toInt + (-1) * v1224.toInt) → (0 ≤ v1222.toInt) → (v1222.toInt ≤ 4) → (mz_S D cy ad am F G R S H) → (va_S (mz_W ad am) s.heap H locs) → (mz_IF false F) → (mz_IG G) → (mz_IR [] true R) → (∀ k : Nat, k ∉ ([14, 15, 16, 18, 19, 23, 26, 29, 30] : List Nat) → F k = Fa k) → (∀ k : Nat, k ∉ ([17] : List Nat) → G k = Ga k) → (∀ k : Nat, k ∉ ([24, 25, 27, 28] : List Nat) → R k = Ra k) → (F 14 = v1223) → (F 15 = v1224) → (F 16 = v1225) → (F 13 = gp) → (G 17 = v1226) → (F 19 = v1227) → (F 23 = v1228) → (F 29 = v1229) → ((1 ≤ v1225.toInt → 0 ≤ (-1) * v1223.toInt + v1224.toInt + (-1))) → ((27 ≤ v1226.toInt → 1 ≤ v1225.toInt → v1225.toInt ≤ 1 → 0 ≤ (-1) * v1223.toInt + v1224.toInt + (-2))) → ((F 19).toInt = 0 → PT (R 24) (R 25) (R 27) (R 28) zs (F 23).toInt.toNat (F 29).toInt.toNat v1222.toInt ∧ low zs (Ra 24) (R 24) ∧ low zs (Ra 25) (R 25)) → (mz_me v1227.toInt v1222.toInt v1223.toInt < (N_l1938 : Int)) → ∀ ls : Array Slot, lv_has ls 3 [(2, .int v1222), (0, .ref am), (1, .int p1)] → W p l e ({ frames := 9, cells := 0, slots := 0, locals := 560 }) s m args below meth c H locs 0 0 (MQ below (mz_w D cy ad am (fun F G R S => mz_IF false F ∧ mz_IG G ∧ mz_IR [] true R ∧ (∀ k : Nat, k ∉ ([14, 15, 16, 18, 19, 23, 26, 29, 30] : List Nat) → F k = Fa k) ∧ (∀ k : Nat, k ∉ ([24, 25, 27, 28] : List Nat) → R k = Ra k) ∧ (∀ k : Nat, k ∉ ([17] : List Nat) → G k = Ga k) ∧ 0 ≤ (-1) * (F 14).toInt + (F 15).toInt ∧ 0 ≤ gp.toInt + (-1) * (F 15).toInt ∧ (1 ≤ (F 16).toInt → 0 ≤ (-1) * (F 14).toInt + (F 15).toInt + (-1)) ∧ (27 ≤ (G 17).toInt → 1 ≤ (F 16).toInt → (F 16).toInt ≤ 1 → 0 ≤ (-1) * (F 14).toInt + (F 15).toInt + (-2)) ∧ 0 ≤ (-1) * gf.toInt + (F 14).toInt ∧ 0 ≤ (-1) * (F 23).toInt + (F 14).toInt ∧ 0 ≤ (-1) * gc.toInt + (F 23).toInt ∧ ((F 19).toInt = 0 → WFC (R 24) (R 25) gc.toInt.toNat (F 23).toInt.toNat ∧ low gc.toInt.toNat (Ra 24) (R 24) ∧ low gc.toInt.toNat (Ra 25) (R 25)))) args s 0 0 (mz_W ad am)) (F0 m 20 ls []) := by
      intro N_l1938
      induction N_l1938 with
      | zero => intro v1222 v1223 v1224 v1225 v1226 v1227 v1228 v1229 H locs F G R S hq0_l1938 hq1_l1938 hq2_l1938 hq3_l1938 hq4_l1938 hq5_l1938 hq6_l1938 hq7_l1938 hq8_l1938 hq9_l1938 hq10_l1938 hq11_l1938 hM hS hIF hIG hIR hFF hGG hRR hg_0 hg_1 hg_2 hg_3 hg_4 hg_5 hg_6 hf2 hc0_l1938 hc1_l1938 hPT hm_l1938 ls hl; exfalso; have h9 := mz_me.nn (b := v1227.toInt) (t := v1222.toInt) (f := v1223.toInt) (by omega) (by omega); omega
      | succ N_l1938 ih_l1938 =>
        intro v1222 v1223 v1224 v1225 v1226 v1227 v1228 v1229 H locs F G R S hq0_l1938 hq1_l1938 hq2_l1938 hq3_l1938 hq4_l1938 hq5_l1938 hq6_l1938 hq7_l1938 hq8_l1938 hq9_l1938 hq10_l1938 hq11_l1938 hM hS hIF hIG hIR hFF hGG hRR hg_0 hg_1 hg_2 hg_3 hg_4 hg_5 hg_6 hf2 hc0_l1938 hc1_l1938 hPT hm_l1938 ls hl
        refine lv_aload_n hx hb dX13_readExpression_20 rfl (lv_at hl 1 rfl) ?_
        refine mz_getI hx hb htl hown hK hM 19 (Nat.le_of_ble_eq_true rfl) rfl (htl _ mw_668) (fun _ h9 => h9) dX13_readExpression_21 (fun v9 e9 => ?_)
        refine fx_ti (v := v1227) (e9.symm.trans hg_5) ?_
        refine lv_if_ne (tgt := 76) hx hb dX13_readExpression_24 (by decide) (fun c9 => ?_) (fun c9 => ?_)
        · have hc1939 : ¬ (v1227.toInt = 0) := fun h9 => c9 ((fi_eq rfl (show (0 : Int32).toInt = 0 by decide)).mpr h9)
          refine lv_aload_n hx hb dX13_readExpression_76 rfl (lv_at hl 1 rfl) ?_
          refine lv_iconst (v := 1) hx hb dX13_readExpression_77 (by decide) ?_
          have hk_1 : (1 : Int32).toInt = 1 := by decide
          refine mz_Vv (As := [.int 1]) (rest := []) ⟨hx, hb, hml, hown, hts⟩ hK hM hS (k_X13_settle l D cy ld ad am hD _ _ _ _ 1 v1228 v1229 v1227 zs hIF hIG hIR hg_6 hf2 hg_5 (by omega) (by omega) (by omega) (fun h9 => absurd h9 (by omega))) ⟨callB_of 1 hts (wl_in mw_773) rfl rfl rfl (htl _ mw_5) (htl _ mw_770) hd_yX13_settle ⟨(Nat.le_of_ble_eq_true rfl), (Nat.le_of_ble_eq_true rfl)⟩, htl _ mw_771, htl _ mw_772⟩ rfl hl.1 rfl (Nat.le_of_ble_eq_true rfl) dX13_readExpression_78 ⟨(Nat.le_of_ble_eq_true rfl), (Nat.le_of_ble_eq_true rfl)⟩ (fun H locs F G R S hpo hM hS => ?_)
          obtain ⟨hIF, hIG, hIR, hfr9, hrr9, hgr9, hpo1940, hpo1941, hpo1942, hx1943, hx1944, hx1945⟩ := hpo
          have hFF := mz_fr (K := [14, 15, 16, 18, 19, 23, 26, 29, 30]) (Fa := Fa) hfr9 hFF (by decide)
          have hRR := mz_fr (K := [24, 25, 27, 28]) (Fa := Ra) hrr9 hRR (by decide)
          have hGG := mz_fr (K := [17]) (Fa := Ga) hgr9 hGG (by decide)
          have hg_0 := (hfr9 14 (by decide)).trans hg_0
          have hg_1 := (hfr9 15 (by decide)).trans hg_1
          have hg_2 := (hfr9 16 (by decide)).trans hg_2
          have hg_3 := (hfr9 13 (by decide)).trans hg_3
          have hg_4 := (hgr9 17 (by decide)).trans hg_4
          have hg_5 := (hfr9 19 (by decide)).trans hg_5
          obtain ⟨v1948, hf1947⟩ : ∃ z : Int32, F 23 = z := ⟨_, rfl⟩
          have hq_v1948 := tk_rng v1948
          rw [hf1947] at hpo1940 hpo1942
          have hr_v1948 : 0 ≤ v1948.toInt ∧ v1948.toInt ≤ 400 := hIF.at hf1947
          obtain ⟨v1950, hf1949⟩ : ∃ z : Int32, F 29 = z := ⟨_, rfl⟩
          have hq_v1950 := tk_rng v1950
          rw [hf1949] at hpo1940 hpo1941
          have hr_v1950 : 0 ≤ v1950.toInt ∧ v1950.toInt ≤ 400 := hIF.at hf1949
          exact mz_vret hx hb hr hlocks ⟨hIF, hIG, hIR, hFF, hRR, hGG, (by rw [hg_0, hg_1]; omega), (by rw [hg_1]; omega), (by rw [hg_0, hg_1, hg_2]; omega), (by rw [hg_0, hg_1, hg_2, hg_4]; omega), (by rw [hg_0]; omega), (by rw [hg_0, hf1947]; omega), (by rw [hf1947]; omega), (by rw [hg_5]; exact fun h9 => absurd h9 (by omega))⟩ hM hS dX13_readExpression_81
        · have hc1939 : v1227.toInt = 0 := (fi_eq rfl (show (0 : Int32).toInt = 0 by decide)).mp c9
          refine lv_iload_n hx hb dX13_readExpression_27 rfl (lv_at hl 0 rfl) ?_
          refine lv_iconst (v := 4) hx hb dX13_readExpression_28 (by decide) ?_
          refine lv_icmp_eq (tgt := 76) hx hb dX13_readExpression_29 (by decide) (fun c9 => ?_) (fun c9 => ?_)
          · have hc1951 : v1222.toInt = 4 := (fi_eq rfl (show (4 : Int32).toInt = 4 by decide)).mp c9
            refine lv_aload_n hx hb dX13_readExpression_76 rfl (lv_at hl 1 rfl) ?_
            refine lv_iconst (v := 1) hx hb dX13_readExpression_77 (by decide) ?_
            have hPT := hPT (by rw [hg_5]; omega)
            have hPTT := hPT.1.2.2 (by omega)
            have hL7 := hPT.2
            have hPT : (F 19).toInt = 0 → _ := fun _ => hPT
            rw [hf2] at hPTT
            have hk_1 : (1 : Int32).toInt = 1 := by decide
            refine mz_Vv (As := [.int 1]) (rest := []) ⟨hx, hb, hml, hown, hts⟩ hK hM hS (k_X13_settle l D cy ld ad am hD _ _ _ _ 1 v1228 v1229 v1227 zs hIF hIG hIR hg_6 hf2 hg_5 (by omega) (by omega) (by omega) (fun h9 => by have h8 := (hPT (by rw [hg_5]; omega)).1.p (c := 1) (by rw [show v1222.toInt = 4 by omega]; decide); rw [hg_6, hf2] at h8; exact h8)) ⟨callB_of 1 hts (wl_in mw_773) rfl rfl rfl (htl _ mw_5) (htl _ mw_770) hd_yX13_settle ⟨(Nat.le_of_ble_eq_true rfl), (Nat.le_of_ble_eq_true rfl)⟩, htl _ mw_771, htl _ mw_772⟩ rfl hl.1 rfl (Nat.le_of_ble_eq_true rfl) dX13_readExpression_78 ⟨(Nat.le_of_ble_eq_true rfl), (Nat.le_of_ble_eq_true rfl)⟩ (fun H locs F G R S hpo hM hS => ?_)
            obtain ⟨hIF, hIG, hIR, hfr9, hrr9, hgr9, hpo1952, hpo1953, hpo1954, hx1955, hx1956, hx1957⟩ := hpo
            have hFF := mz_fr (K := [14, 15, 16, 18, 19, 23, 26, 29, 30]) (Fa := Fa) hfr9 hFF (by decide)
            have hRR := mz_fr (K := [24, 25, 27, 28]) (Fa := Ra) hrr9 hRR (by decide)
            have hGG := mz_fr (K := [17]) (Fa := Ga) hgr9 hGG (by decide)
            have hg_0 := (hfr9 14 (by decide)).trans hg_0
            have hg_1 := (hfr9 15 (by decide)).trans hg_1
            have hg_2 := (hfr9 16 (by decide)).trans hg_2
            have hg_3 := (hfr9 13 (by decide)).trans hg_3
            have hg_4 := (hgr9 17 (by decide)).trans hg_4
            have hg_5 := (hfr9 19 (by decide)).trans hg_5
            obtain ⟨v1960, hf1959⟩ : ∃ z : Int32, F 23 = z := ⟨_, rfl⟩
            have hq_v1960 := tk_rng v1960
            rw [hf1959] at hpo1952 hpo1954
            have hr_v1960 : 0 ≤ v1960.toInt ∧ v1960.toInt ≤ 400 := hIF.at hf1959
            obtain ⟨v1962, hf1961⟩ : ∃ z : Int32, F 29 = z := ⟨_, rfl⟩
            have hq_v1962 := tk_rng v1962
            rw [hf1961] at hpo1952 hpo1953
            have hr_v1962 : 0 ≤ v1962.toInt ∧ v1962.toInt ≤ 400 := hIF.at hf1961
            have hs9 := hx1955 (by omega)
            rw [hf1959, hf1961] at hs9
            rw [hf1961] at hx1957
            have hd0 : v1962.toInt.toNat = 0 := by
              by_cases h9 : 1 ≤ v1962.toInt
              · have h8 := (hx1957 h9).1 (by decide)
                have h7 := hPTT (v1962.toInt - 1).toNat (by omega)
                omega
              · omega
            have hL8 := hL7
            exact mz_vret hx hb hr hlocks ⟨hIF, hIG, hIR, hFF, hRR, hGG, (by rw [hg_0, hg_1]; omega), (by rw [hg_1]; omega), (by rw [hg_0, hg_1, hg_2]; omega), (by rw [hg_0, hg_1, hg_2, hg_4]; omega), (by rw [hg_0]; omega), (by rw [hg_0, hf1959]; omega), (by rw [hf1959]; omega), (fun _ => ⟨by rw [hf1959, ← hzs]; exact PT.over hs9.1 hd0, by rw [← hzs]; exact hL8.1.trans hs9.2.1 (Nat.le_refl _), by rw [← hzs]; exact hL8.2.trans hs9.2.2 (Nat.le_refl _)⟩)⟩ hM hS dX13_readExpression_81
          · have hc1951 : ¬ (v1222.toInt = 4) := fun h9 => c9 ((fi_eq rfl (show (4 : Int32).toInt = 4 by decide)).mpr h9)
            refine lv_iload_n hx hb dX13_readExpression_32 rfl (lv_at hl 0 rfl) ?_
            refine lv_if_ne (tgt := 43) hx hb dX13_readExpression_33 (by decide) (fun c9 => ?_) (fun c9 => ?_)
            · have hc1963 : ¬ (v1222.toInt = 0) := fun h9 => c9 ((fi_eq rfl (show (0 : Int32).toInt = 0 by decide)).mpr h9)
              refine lv_iload_n hx hb dX13_readExpression_43 rfl (lv_at hl 0 rfl) ?_
              refine lv_iconst (v := 1) hx hb dX13_readExpression_44 (by decide) ?_
              refine lv_icmp_ne (tgt := 55) hx hb dX13_readExpression_45 (by decide) (fun c9 => ?_) (fun c9 => ?_)
              · have hc1964 : ¬ (v1222.toInt = 1) := fun h9 => c9 ((fi_eq rfl (show (1 : Int32).toInt = 1 by decide)).mpr h9)
                refine lv_iload_n hx hb dX13_readExpression_55 rfl (lv_at hl 0 rfl) ?_
                refine lv_iconst (v := 3) hx hb dX13_readExpression_56 (by decide) ?_
                refine lv_icmp_ne (tgt := 68) hx hb dX13_readExpression_57 (by decide) (fun c9 => ?_) (fun c9 => ?_)
                · have hc1965 : ¬ (v1222.toInt = 3) := fun h9 => c9 ((fi_eq rfl (show (3 : Int32).toInt = 3 by decide)).mpr h9)
                  refine lv_aload_n hx hb dX13_readExpression_68 rfl (lv_at hl 1 rfl) ?_
                  have hL9 := (hPT (by rw [hg_5]; omega)).2
                  refine mz_Vi (As := []) (rest := []) ⟨hx, hb, hml, hown, hts⟩ hK hM hS (k_X13_behindTest l D cy ld ad am hD _ _ _ _ v1223 v1224 v1225 gp v1226 v1227 v1228 v1229 zs hIF hIG hIR hg_0 hg_1 hg_2 hg_3 hg_4 hg_5 hg_6 hf2 (by omega) (by omega) (by omega) (by omega) (by omega) (by omega) (by have h9 := (hPT (by rw [hg_5]; omega)).1; rw [hg_6, hf2, show v1222.toInt = 2 by omega] at h9; exact h9)) ⟨callB_of 0 hts (wl_in mw_789) rfl rfl rfl (htl _ mw_5) (htl _ mw_786) hd_yX13_behindTest ⟨(Nat.le_of_ble_eq_true rfl), (Nat.le_of_ble_eq_true rfl)⟩, htl _ mw_787, htl _ mw_788⟩ rfl hl.1 rfl (Nat.le_of_ble_eq_true rfl) dX13_readExpression_69 ⟨(Nat.le_of_ble_eq_true rfl), (Nat.le_of_ble_eq_true rfl)⟩ (fun v1966 H locs F G R S hpo hM hS => ?_)
                  obtain ⟨hIF, hIG, hIR, hfr9, hrr9, hgr9, hpo1967, hpo1968, hpo1969, hpo1970, hpo1971, hpo1972, hpo1973, hpo1974, hpo1975, hpo1976, hx1977⟩ := hpo
                  have hq_v1966 := tk_rng v1966
                  have hFF := mz_fr (K := [14, 15, 16, 18, 19, 23, 26, 29, 30]) (Fa := Fa) hfr9 hFF (by decide)
                  have hRR := mz_fr (K := [24, 25, 27, 28]) (Fa := Ra) hrr9 hRR (by decide)
                  have hGG := mz_fr (K := [17]) (Fa := Ga) hgr9 hGG (by decide)
                  have hg_3 := (hfr9 13 (by decide)).trans hg_3
                  obtain ⟨v1980, hf1979⟩ : ∃ z : Int32, F 14 = z := ⟨_, rfl⟩
                  have hq_v1980 := tk_rng v1980
                  rw [hf1979] at hpo1967 hpo1969 hpo1970 hpo1971 hpo1972 hpo1974
                  have hr_v1980 : 0 ≤ v1980.toInt ∧ v1980.toInt ≤ 400 := hIF.at hf1979
                  obtain ⟨v1982, hf1981⟩ : ∃ z : Int32, F 15 = z := ⟨_, rfl⟩
                  have hq_v1982 := tk_rng v1982
                  rw [hf1981] at hpo1967 hpo1968 hpo1969 hpo1970
                  have hr_v1982 : 0 ≤ v1982.toInt ∧ v1982.toInt ≤ 400 := hIF.at hf1981
                  obtain ⟨v1984, hf1983⟩ : ∃ z : Int32, F 16 = z := ⟨_, rfl⟩
                  have hq_v1984 := tk_rng v1984
                  rw [hf1983] at hpo1969 hpo1970
                  have hr_v1984 : 0 ≤ v1984.toInt ∧ v1984.toInt ≤ 3 := hIF.at hf1983
                  obtain ⟨w1986, hf1985⟩ : ∃ z : Int64, G 17 = z := ⟨_, rfl⟩
                  have hq_w1986 := tk_rngL w1986
                  rw [hf1985] at hpo1970
                  obtain ⟨v1988, hf1987⟩ : ∃ z : Int32, F 19 = z := ⟨_, rfl⟩
                  have hq_v1988 := tk_rng v1988
                  rw [hf1987] at hpo1974
                  have hr_v1988 : 0 ≤ v1988.toInt ∧ v1988.toInt ≤ 1 := hIF.at hf1987
                  obtain ⟨v1990, hf1989⟩ : ∃ z : Int32, F 23 = z := ⟨_, rfl⟩
                  have hq_v1990 := tk_rng v1990
                  rw [hf1989] at hpo1972 hpo1973
                  have hr_v1990 : 0 ≤ v1990.toInt ∧ v1990.toInt ≤ 400 := hIF.at hf1989
                  obtain ⟨v1992, hf1991⟩ : ∃ z : Int32, F 29 = z := ⟨_, rfl⟩
                  have hq_v1992 := tk_rng v1992
                  rw [hf1991] at hpo1972
                  have hr_v1992 : 0 ≤ v1992.toInt ∧ v1992.toInt ≤ 400 := hIF.at hf1991
                  have hPT : (F 19).toInt = 0 → PT (R 24) (R 25) (R 27) (R 28) zs (F 23).toInt.toNat (F 29).toInt.toNat v1966.toInt ∧ low zs (Ra 24) (R 24) ∧ low zs (Ra 25) (R 25) := fun h9 => ⟨(hx1977 h9).1, hL9.1.trans (hx1977 h9).2.1 (Nat.le_refl _), hL9.2.trans (hx1977 h9).2.2 (Nat.le_refl _)⟩
                  refine lv_istore_n (lv' := [(2, .int v1966), (0, .ref am), (1, .int p1)]) hx hb dX13_readExpression_72 rfl hl (by decide) rfl (fun ls hl => ?_)
                  refine lv_goto (tgt := 20) hx hb dX13_readExpression_73 (by decide) ?_
                  exact ih_l1938 v1966 v1980 v1982 v1984 w1986 v1988 v1990 v1992 _ _ _ _ _ _ (by omega) (by omega) (by omega) (by omega) (by omega) (by omega) (by omega) (by omega) (by omega) (by omega) (by omega) (by omega) hM hS hIF hIG hIR hFF hGG hRR hf1979 hf1981 hf1983 hg_3 hf1985 hf1987 hf1989 hf1991 (by omega) (by omega) hPT (mz_me.lt hm_l1938 (by omega) (by omega) (by omega) (by omega) (by omega)) _ (lv_sub hl [0, 1, 2] rfl)
                · have hc1965 : v1222.toInt = 3 := (fi_eq rfl (show (3 : Int32).toInt = 3 by decide)).mp c9
                  refine lv_aload_n hx hb dX13_readExpression_60 rfl (lv_at hl 1 rfl) ?_
                  refine lv_iload_n hx hb dX13_readExpression_61 rfl (lv_at hl 2 rfl) ?_
                  have hL9 := (hPT (by rw [hg_5]; omega)).2
                  refine mz_Vi (As := [.int p1]) (rest := []) ⟨hx, hb, hml, hown, hts⟩ hK hM hS (k_X13_behindSum l D cy ld ad am hD _ _ _ _ p1 v1223 v1224 v1225 gp v1226 v1227 v1228 v1229 zs hIF hIG hIR hg_0 hg_1 hg_2 hg_3 hg_4 hg_5 hg_6 hf2 (by omega) (by omega) (by omega) (by omega) (by omega) (by omega) (by omega) (by omega) (by have h9 := (hPT (by rw [hg_5]; omega)).1; rw [hg_6, hf2, show v1222.toInt = 3 by omega] at h9; exact h9)) ⟨callB_of 1 hts (wl_in mw_766) rfl rfl rfl (htl _ mw_5) (htl _ mw_763) hd_yX13_behindSum ⟨(Nat.le_of_ble_eq_true rfl), (Nat.le_of_ble_eq_true rfl)⟩, htl _ mw_764, htl _ mw_765⟩ rfl hl.1 rfl (Nat.le_of_ble_eq_true rfl) dX13_readExpression_62 ⟨(Nat.le_of_ble_eq_true rfl), (Nat.le_of_ble_eq_true rfl)⟩ (fun v1993 H locs F G R S hpo hM hS => ?_)
                  obtain ⟨hIF, hIG, hIR, hfr9, hrr9, hgr9, hpo1994, hpo1995, hpo1996, hpo1997, hpo1998, hpo1999, hpo2000, hpo2001, hpo2002, hpo2003, hpo2004, hx2005⟩ := hpo
                  have hq_v1993 := tk_rng v1993
                  have hFF := mz_fr (K := [14, 15, 16, 18, 19, 23, 26, 29, 30]) (Fa := Fa) hfr9 hFF (by decide)
                  have hRR := mz_fr (K := [24, 25, 27, 28]) (Fa := Ra) hrr9 hRR (by decide)
                  have hGG := mz_fr (K := [17]) (Fa := Ga) hgr9 hGG (by decide)
                  have hg_3 := (hfr9 13 (by decide)).trans hg_3
                  obtain ⟨v2008, hf2007⟩ : ∃ z : Int32, F 14 = z := ⟨_, rfl⟩
                  have hq_v2008 := tk_rng v2008
                  rw [hf2007] at hpo1994 hpo1996 hpo1997 hpo1998 hpo1999 hpo2001 hpo2002
                  have hr_v2008 : 0 ≤ v2008.toInt ∧ v2008.toInt ≤ 400 := hIF.at hf2007
                  obtain ⟨v2010, hf2009⟩ : ∃ z : Int32, F 15 = z := ⟨_, rfl⟩
                  have hq_v2010 := tk_rng v2010
                  rw [hf2009] at hpo1994 hpo1995 hpo1996 hpo1997
                  have hr_v2010 : 0 ≤ v2010.toInt ∧ v2010.toInt ≤ 400 := hIF.at hf2009
                  obtain ⟨v2012, hf2011⟩ : ∃ z : Int32, F 16 = z := ⟨_, rfl⟩
                  have hq_v2012 := tk_rng v2012
                  rw [hf2011] at hpo1996 hpo1997
                  have hr_v2012 : 0 ≤ v2012.toInt ∧ v2012.toInt ≤ 3 := hIF.at hf2011
                  obtain ⟨w2014, hf2013⟩ : ∃ z : Int64, G 17 = z := ⟨_, rfl⟩
                  have hq_w2014 := tk_rngL w2014
                  rw [hf2013] at hpo1997
                  obtain ⟨v2016, hf2015⟩ : ∃ z : Int32, F 19 = z := ⟨_, rfl⟩
                  have hq_v2016 := tk_rng v2016
                  rw [hf2015] at hpo2001 hpo2002
                  have hr_v2016 : 0 ≤ v2016.toInt ∧ v2016.toInt ≤ 1 := hIF.at hf2015
                  obtain ⟨v2018, hf2017⟩ : ∃ z : Int32, F 23 = z := ⟨_, rfl⟩
                  have hq_v2018 := tk_rng v2018
                  rw [hf2017] at hpo1999 hpo2000
                  have hr_v2018 : 0 ≤ v2018.toInt ∧ v2018.toInt ≤ 400 := hIF.at hf2017
                  obtain ⟨v2020, hf2019⟩ : ∃ z : Int32, F 29 = z := ⟨_, rfl⟩
                  have hq_v2020 := tk_rng v2020
                  rw [hf2019] at hpo1999
                  have hr_v2020 : 0 ≤ v2020.toInt ∧ v2020.toInt ≤ 400 := hIF.at hf2019
                  have hPT : (F 19).toInt = 0 → PT (R 24) (R 25) (R 27) (R 28) zs (F 23).toInt.toNat (F 29).toInt.toNat v1993.toInt ∧ low zs (Ra 24) (R 24) ∧ low zs (Ra 25) (R 25) := fun h9 => ⟨(hx2005 h9).1, hL9.1.trans (hx2005 h9).2.1 (Nat.le_refl _), hL9.2.trans (hx2005 h9).2.2 (Nat.le_refl _)⟩
                  refine lv_goto (tgt := 72) hx hb dX13_readExpression_65 (by decide) ?_
                  refine lv_istore_n (lv' := [(2, .int v1993), (0, .ref am), (1, .int p1)]) hx hb dX13_readExpression_72 rfl hl (by decide) rfl (fun ls hl => ?_)
                  refine lv_goto (tgt := 20) hx hb dX13_readExpression_73 (by decide) ?_
                  exact ih_l1938 v1993 v2008 v2010 v2012 w2014 v2016 v2018 v2020 _ _ _ _ _ _ (by omega) (by omega) (by omega) (by omega) (by omega) (by omega) (by omega) (by omega) (by omega) (by omega) (by omega) (by omega) hM hS hIF hIG hIR hFF hGG hRR hf2007 hf2009 hf2011 hg_3 hf2013 hf2015 hf2017 hf2019 (by omega) (by omega) hPT (mz_me.lt hm_l1938 (by omega) (by omega) (by omega) (by omega) (by omega)) _ (lv_sub hl [0, 1, 2] rfl)
              · have hc1964 : v1222.toInt = 1 := (fi_eq rfl (show (1 : Int32).toInt = 1 by decide)).mp c9
                refine lv_aload_n hx hb dX13_readExpression_48 rfl (lv_at hl 1 rfl) ?_
                have hL9 := (hPT (by rw [hg_5]; omega)).2
                refine mz_Vi (As := []) (rest := []) ⟨hx, hb, hml, hown, hts⟩ hK hM hS (k_X13_readPart l D cy ld ad am hD _ _ _ _ v1223 v1224 v1225 gp v1226 v1227 v1228 v1229 zs hIF hIG hIR hg_0 hg_1 hg_2 hg_3 hg_4 hg_5 hg_6 hf2 (by omega) (by omega) (by omega) (by omega) (by omega) (by omega) (by have h9 := (hPT (by rw [hg_5]; omega)).1.p (c := 0) (by rw [show v1222.toInt = 1 by omega]; decide); rw [hg_6, hf2] at h9; exact h9)) ⟨callB_of 0 hts (wl_in mw_740) rfl rfl rfl (htl _ mw_5) (htl _ mw_737) hd_yX13_readPart ⟨(Nat.le_of_ble_eq_true rfl), (Nat.le_of_ble_eq_true rfl)⟩, htl _ mw_738, htl _ mw_739⟩ rfl hl.1 rfl (Nat.le_of_ble_eq_true rfl) dX13_readExpression_49 ⟨(Nat.le_of_ble_eq_true rfl), (Nat.le_of_ble_eq_true rfl)⟩ (fun v2021 H locs F G R S hpo hM hS => ?_)
                obtain ⟨hIF, hIG, hIR, hfr9, hrr9, hgr9, hpo2022, hpo2023, hpo2024, hpo2025, hpo2026, hpo2027, hpo2028, hpo2029, hpo2030, hpo2031, hx2032⟩ := hpo
                have hq_v2021 := tk_rng v2021
                have hFF := mz_fr (K := [14, 15, 16, 18, 19, 23, 26, 29, 30]) (Fa := Fa) hfr9 hFF (by decide)
                have hRR := mz_fr (K := [24, 25, 27, 28]) (Fa := Ra) hrr9 hRR (by decide)
                have hGG := mz_fr (K := [17]) (Fa := Ga) hgr9 hGG (by decide)
                have hg_3 := (hfr9 13 (by decide)).trans hg_3
                obtain ⟨v2035, hf2034⟩ : ∃ z : Int32, F 14 = z := ⟨_, rfl⟩
                have hq_v2035 := tk_rng v2035
                rw [hf2034] at hpo2022 hpo2024 hpo2025 hpo2026 hpo2027 hpo2029
                have hr_v2035 : 0 ≤ v2035.toInt ∧ v2035.toInt ≤ 400 := hIF.at hf2034
                obtain ⟨v2037, hf2036⟩ : ∃ z : Int32, F 15 = z := ⟨_, rfl⟩
                have hq_v2037 := tk_rng v2037
                rw [hf2036] at hpo2022 hpo2023 hpo2024 hpo2025
                have hr_v2037 : 0 ≤ v2037.toInt ∧ v2037.toInt ≤ 400 := hIF.at hf2036
                obtain ⟨v2039, hf2038⟩ : ∃ z : Int32, F 16 = z := ⟨_, rfl⟩
                have hq_v2039 := tk_rng v2039
                rw [hf2038] at hpo2024 hpo2025
                have hr_v2039 : 0 ≤ v2039.toInt ∧ v2039.toInt ≤ 3 := hIF.at hf2038
                obtain ⟨w2041, hf2040⟩ : ∃ z : Int64, G 17 = z := ⟨_, rfl⟩
                have hq_w2041 := tk_rngL w2041
                rw [hf2040] at hpo2025
                obtain ⟨v2043, hf2042⟩ : ∃ z : Int32, F 19 = z := ⟨_, rfl⟩
                have hq_v2043 := tk_rng v2043
                rw [hf2042] at hpo2029
                have hr_v2043 : 0 ≤ v2043.toInt ∧ v2043.toInt ≤ 1 := hIF.at hf2042
                obtain ⟨v2045, hf2044⟩ : ∃ z : Int32, F 23 = z := ⟨_, rfl⟩
                have hq_v2045 := tk_rng v2045
                rw [hf2044] at hpo2027 hpo2028
                have hr_v2045 : 0 ≤ v2045.toInt ∧ v2045.toInt ≤ 400 := hIF.at hf2044
                obtain ⟨v2047, hf2046⟩ : ∃ z : Int32, F 29 = z := ⟨_, rfl⟩
                have hq_v2047 := tk_rng v2047
                rw [hf2046] at hpo2027
                have hr_v2047 : 0 ≤ v2047.toInt ∧ v2047.toInt ≤ 400 := hIF.at hf2046
                have hPT : (F 19).toInt = 0 → PT (R 24) (R 25) (R 27) (R 28) zs (F 23).toInt.toNat (F 29).toInt.toNat v2021.toInt ∧ low zs (Ra 24) (R 24) ∧ low zs (Ra 25) (R 25) := fun h9 => ⟨(hx2032 h9).1, hL9.1.trans (hx2032 h9).2.1 (Nat.le_refl _), hL9.2.trans (hx2032 h9).2.2 (Nat.le_refl _)⟩
                refine lv_goto (tgt := 72) hx hb dX13_readExpression_52 (by decide) ?_
                refine lv_istore_n (lv' := [(2, .int v2021), (0, .ref am), (1, .int p1)]) hx hb dX13_readExpression_72 rfl hl (by decide) rfl (fun ls hl => ?_)
                refine lv_goto (tgt := 20) hx hb dX13_readExpression_73 (by decide) ?_
                exact ih_l1938 v2021 v2035 v2037 v2039 w2041 v2043 v2045 v2047 _ _ _ _ _ _ (by omega) (by omega) (by omega) (by omega) (by omega) (by omega) (by omega) (by omega) (by omega) (by omega) (by omega) (by omega) hM hS hIF hIG hIR hFF hGG hRR hf2034 hf2036 hf2038 hg_3 hf2040 hf2042 hf2044 hf2046 (by omega) (by omega) hPT (mz_me.lt hm_l1938 (by omega) (by omega) (by omega) (by omega) (by omega)) _ (lv_sub hl [0, 1, 2] rfl)
            · have hc1963 : v1222.toInt = 0 := (fi_eq rfl (show (0 : Int32).toInt = 0 by decide)).mp c9
              refine lv_aload_n hx hb dX13_readExpression_36 rfl (lv_at hl 1 rfl) ?_
              have hL9 := (hPT (by rw [hg_5]; omega)).2
              refine mz_Vi (As := []) (rest := []) ⟨hx, hb, hml, hown, hts⟩ hK hM hS (k_X13_readPlain l D cy ld ad am hD _ _ _ _ v1223 v1224 v1225 gp v1226 v1227 v1228 v1229 zs hIF hIG hIR hg_0 hg_1 hg_2 hg_3 hg_4 hg_5 hg_6 hf2 (by omega) (by omega) (by omega) (by omega) (by omega) (by omega) (by have h9 := (hPT (by rw [hg_5]; omega)).1; rw [hg_6, hf2, show v1222.toInt = 0 by omega] at h9; exact h9)) ⟨callB_of 0 hts (wl_in mw_723) rfl rfl rfl (htl _ mw_5) (htl _ mw_720) hd_yX13_readPlain ⟨(Nat.le_of_ble_eq_true rfl), (Nat.le_of_ble_eq_true rfl)⟩, htl _ mw_721, htl _ mw_722⟩ rfl hl.1 rfl (Nat.le_of_ble_eq_true rfl) dX13_readExpression_37 ⟨(Nat.le_of_ble_eq_true rfl), (Nat.le_of_ble_eq_true rfl)⟩ (fun v2048 H locs F G R S hpo hM hS => ?_)
              obtain ⟨hIF, hIG, hIR, hfr9, hrr9, hgr9, hpo2049, hpo2050, hpo2051, hpo2052, hpo2053, hpo2054, hpo2055, hpo2056, hpo2057, hpo2058, hx2059⟩ := hpo
              have hq_v2048 := tk_rng v2048
              have hFF := mz_fr (K := [14, 15, 16, 18, 19, 23, 26, 29, 30]) (Fa := Fa) hfr9 hFF (by decide)
              have hRR := mz_fr (K := [24, 25, 27, 28]) (Fa := Ra) hrr9 hRR (by decide)
              have hGG := mz_fr (K := [17]) (Fa := Ga) hgr9 hGG (by decide)
              have hg_3 := (hfr9 13 (by decide)).trans hg_3
              obtain ⟨v2062, hf2061⟩ : ∃ z : Int32, F 14 = z := ⟨_, rfl⟩
              have hq_v2062 := tk_rng v2062
              rw [hf2061] at hpo2049 hpo2051 hpo2052 hpo2053 hpo2054 hpo2056
              have hr_v2062 : 0 ≤ v2062.toInt ∧ v2062.toInt ≤ 400 := hIF.at hf2061
              obtain ⟨v2064, hf2063⟩ : ∃ z : Int32, F 15 = z := ⟨_, rfl⟩
              have hq_v2064 := tk_rng v2064
              rw [hf2063] at hpo2049 hpo2050 hpo2051 hpo2052
              have hr_v2064 : 0 ≤ v2064.toInt ∧ v2064.toInt ≤ 400 := hIF.at hf2063
              obtain ⟨v2066, hf2065⟩ : ∃ z : Int32, F 16 = z := ⟨_, rfl⟩
              have hq_v2066 := tk_rng v2066
              rw [hf2065] at hpo2051 hpo2052
              have hr_v2066 : 0 ≤ v2066.toInt ∧ v2066.toInt ≤ 3 := hIF.at hf2065
              obtain ⟨w2068, hf2067⟩ : ∃ z : Int64, G 17 = z := ⟨_, rfl⟩
              have hq_w2068 := tk_rngL w2068
              rw [hf2067] at hpo2052
              obtain ⟨v2070, hf2069⟩ : ∃ z : Int32, F 19 = z := ⟨_, rfl⟩
              have hq_v2070 := tk_rng v2070
              rw [hf2069] at hpo2056
              have hr_v2070 : 0 ≤ v2070.toInt ∧ v2070.toInt ≤ 1 := hIF.at hf2069
              obtain ⟨v2072, hf2071⟩ : ∃ z : Int32, F 23 = z := ⟨_, rfl⟩
              have hq_v2072 := tk_rng v2072
              rw [hf2071] at hpo2054 hpo2055
              have hr_v2072 : 0 ≤ v2072.toInt ∧ v2072.toInt ≤ 400 := hIF.at hf2071
              obtain ⟨v2074, hf2073⟩ : ∃ z : Int32, F 29 = z := ⟨_, rfl⟩
              have hq_v2074 := tk_rng v2074
              rw [hf2073] at hpo2054
              have hr_v2074 : 0 ≤ v2074.toInt ∧ v2074.toInt ≤ 400 := hIF.at hf2073
              have hPT : (F 19).toInt = 0 → PT (R 24) (R 25) (R 27) (R 28) zs (F 23).toInt.toNat (F 29).toInt.toNat v2048.toInt ∧ low zs (Ra 24) (R 24) ∧ low zs (Ra 25) (R 25) := fun h9 => ⟨(hx2059 h9).1, hL9.1.trans (hx2059 h9).2.1 (Nat.le_refl _), hL9.2.trans (hx2059 h9).2.2 (Nat.le_refl _)⟩
              refine lv_goto (tgt := 72) hx hb dX13_readExpression_40 (by decide) ?_
              refine lv_istore_n (lv' := [(2, .int v2048), (0, .ref am), (1, .int p1)]) hx hb dX13_readExpression_72 rfl hl (by decide) rfl (fun ls hl => ?_)
              refine lv_goto (tgt := 20) hx hb dX13_readExpression_73 (by decide) ?_
              exact ih_l1938 v2048 v2062 v2064 v2066 w2068 v2070 v2072 v2074 _ _ _ _ _ _ (by omega) (by omega) (by omega) (by omega) (by omega) (by omega) (by omega) (by omega) (by omega) (by omega) (by omega) (by omega) hM hS hIF hIG hIR hFF hGG hRR hf2061 hf2063 hf2065 hg_3 hf2067 hf2069 hf2071 hf2073 (by omega) (by omega) hPT (mz_me.lt hm_l1938 (by omega) (by omega) (by omega) (by omega) (by omega)) _ (lv_sub hl [0, 1, 2] rfl)
    have hk_0 : (0 : Int32).toInt = 0 := by decide
    have hk_0 : (0 : Int32).toInt = 0 := by decide
    have hk_0 : (0 : Int32).toInt = 0 := by decide
    exact hl1938 2011 0 gf gt gs gw gb gc 0 _ _ _ _ _ _ (by omega) (by omega) (by omega) (by omega) (by omega) (by omega) (by omega) (by omega) (by omega) (by omega) (by omega) (by omega) hM hS hIF hIG hIR hFF (fun _ _ => rfl) (fun _ _ => rfl) hg_0 hg_1 hg_2 hg_3 hg_4 hg_5 hg_6 hf2 (by omega) (by omega) (fun _ => ⟨PT.mk hPI0 (by decide) (fun _ i h9 => absurd h9 (by rw [show (F 29).toInt = 0 by rw [hf2]; decide]; exact Nat.not_lt_zero _)) (fun h9 => absurd h9 (by decide)) rfl rfl rfl rfl rfl rfl, low.refl _ _, low.refl _ _⟩) (mz_me.le (by omega) (by omega)) _ (lv_sub hl [0, 1, 2] rfl)
