theorem hd_yX13_tells : yX13_tells.cls ≠ "java/lang/invoke/MethodHandle" ∧ yX13_tells.cls ≠ "java/lang/invoke/VarHandle" ∧ (parseMethodDescriptor yX13_tells.desc).map (fun d => d.parameters.length) = some 2 := by decide +kernel
theorem hd_yX13_within : yX13_within.cls ≠ "java/lang/invoke/MethodHandle" ∧ yX13_within.cls ≠ "java/lang/invoke/VarHandle" ∧ (parseMethodDescriptor yX13_within.desc).map (fun d => d.parameters.length) = some 3 := by decide +kernel
theorem dX13_lullsSet_0 : decode cX13_lullsSet 0 = .ok (.aload_n 0, 1) := by decide +kernel
theorem dX13_lullsSet_1 : decode cX13_lullsSet 1 = .ok (.iconst 0, 1) := by decide +kernel
theorem dX13_lullsSet_2 : decode cX13_lullsSet 2 = .ok (.aload_n 0, 1) := by decide +kernel
theorem dX13_lullsSet_3 : decode cX13_lullsSet 3 = .ok (.getfield 101, 3) := by decide +kernel
theorem dX13_lullsSet_6 : decode cX13_lullsSet 6 = .ok (.iconst 2, 1) := by decide +kernel
theorem dX13_lullsSet_7 : decode cX13_lullsSet 7 = .ok (.laload, 1) := by decide +kernel
theorem dX13_lullsSet_8 : decode cX13_lullsSet 8 = .ok (.aload_n 0, 1) := by decide +kernel
theorem dX13_lullsSet_9 : decode cX13_lullsSet 9 = .ok (.getfield 101, 3) := by decide +kernel
theorem dX13_lullsSet_12 : decode cX13_lullsSet 12 = .ok (.iconst 5, 1) := by decide +kernel
theorem dX13_lullsSet_13 : decode cX13_lullsSet 13 = .ok (.laload, 1) := by decide +kernel
theorem dX13_lullsSet_14 : decode cX13_lullsSet 14 = .ok (.ladd, 1) := by decide +kernel
theorem dX13_lullsSet_15 : decode cX13_lullsSet 15 = .ok (.aload_n 0, 1) := by decide +kernel
theorem dX13_lullsSet_16 : decode cX13_lullsSet 16 = .ok (.getfield 101, 3) := by decide +kernel
theorem dX13_lullsSet_19 : decode cX13_lullsSet 19 = .ok (.iconst 4, 1) := by decide +kernel
theorem dX13_lullsSet_20 : decode cX13_lullsSet 20 = .ok (.laload, 1) := by decide +kernel
theorem dX13_lullsSet_21 : decode cX13_lullsSet 21 = .ok (.lconst 1, 1) := by decide +kernel
theorem dX13_lullsSet_22 : decode cX13_lullsSet 22 = .ok (.lcmp, 1) := by decide +kernel
theorem dX13_lullsSet_33 : decode cX13_lullsSet 33 = .ok (.lmul, 1) := by decide +kernel
theorem dX13_lullsSet_34 : decode cX13_lullsSet 34 = .ok (.invokevirtual 417, 3) := by decide +kernel
theorem dX13_lullsSet_37 : decode cX13_lullsSet 37 = .ok (.iconst 0, 1) := by decide +kernel
theorem dX13_lullsSet_38 : decode cX13_lullsSet 38 = .ok (.sipush 999, 3) := by decide +kernel
theorem dX13_lullsSet_41 : decode cX13_lullsSet 41 = .ok (.invokestatic 421, 3) := by decide +kernel
theorem dX13_lullsSet_44 : decode cX13_lullsSet 44 = .ok (.ireturn, 1) := by decide +kernel
theorem dX13_lullsSet_23 : decode cX13_lullsSet 23 = .ok (.ifCond .ne 9, 3) := by decide +kernel
theorem dX13_lullsSet_32 : decode cX13_lullsSet 32 = .ok (.lconst 1, 1) := by decide +kernel
theorem dX13_lullsSet_26 : decode cX13_lullsSet 26 = .ok (.ldc2_w 415, 3) := by decide +kernel
theorem dX13_lullsSet_29 : decode cX13_lullsSet 29 = .ok (.goto 4, 3) := by decide +kernel
set_option maxHeartbeats 4000000 in
set_option maxRecDepth 100000 in
theorem k_X13_lullsSet (l : Launch) (D : va_G) (cy : Nat → ClassId) (ld ad : Nat → Nat) (am : Nat) (hD : mz_D ad am) (Fa : Nat → Int32) (Ga : Nat → Int64) (Ra : Nat → Nat → Int32) (Sa : Nat → Nat → Int64) (hIF : mz_IF true Fa) (hIG : mz_IG Ga) (hIR : mz_IR [] true Ra) : Met l yX13_lullsSet (wl yX13_lullsSet cX13_lullsSet 1 (some .int)) ({ frames := 8, cells := 0, slots := 0, locals := 490 }) (mz_p D cy ld ad am Fa Ga Ra Sa [.ref am]) (mz_i D cy ad am (fun r F G R S => mz_IF true F ∧ mz_IG G ∧ mz_IR [] true R ∧ (∀ k : Nat, k ∉ ([34, 38] : List Nat) → F k = Fa k) ∧ (∀ k : Nat, k ∉ ([] : List Nat) → R k = Ra k) ∧ (∀ k : Nat, k ∉ ([39, 40] : List Nat) → G k = Ga k) ∧ 0 ≤ r.toInt ∧ r.toInt ≤ 999)) 0 0 (mz_W ad am) := by
  refine mz_met (y := yX13_lullsSet) (cc := cX13_lullsSet) (maxL := 1) (ret := (some .int)) (av := [.ref am]) _ (by decide) (Nat.le_of_ble_eq_true rfl) ?_
  intro p e s m args below meth c hx hb hr hml hts htl hown hlocks hK H locs hM hS ls hl
  have hown : s.vm.findClass RX13 = some m.cls := hown
  have hl : lv_has ls 1 [(0, .ref am)] := hl
  refine lv_aload_n hx hb dX13_lullsSet_0 rfl (lv_at hl 0 rfl) ?_
  refine lv_iconst (v := 0) hx hb dX13_lullsSet_1 (by decide) ?_
  refine lv_aload_n hx hb dX13_lullsSet_2 rfl (lv_at hl 0 rfl) ?_
  refine mz_getR hx hb htl hown hK hM 35 (Nat.le_of_ble_eq_true rfl) (Nat.le_of_ble_eq_true rfl) (htl _ mw_223) (fun _ h9 => h9) dX13_lullsSet_3 ?_
  refine lv_iconst (v := 2) hx hb dX13_lullsSet_6 (by decide) ?_
  refine mz_lald hx hb hK hM 35 (Nat.le_of_ble_eq_true rfl) rfl (nn := 13) rfl (I := 2) (by decide) (by decide) (by decide) dX13_lullsSet_7 (fun w1 _ => ?_)
  refine lv_aload_n hx hb dX13_lullsSet_8 rfl (lv_at hl 0 rfl) ?_
  refine mz_getR hx hb htl hown hK hM 35 (Nat.le_of_ble_eq_true rfl) (Nat.le_of_ble_eq_true rfl) (htl _ mw_223) (fun _ h9 => h9) dX13_lullsSet_9 ?_
  refine lv_iconst (v := 5) hx hb dX13_lullsSet_12 (by decide) ?_
  refine mz_lald hx hb hK hM 35 (Nat.le_of_ble_eq_true rfl) rfl (nn := 13) rfl (I := 5) (by decide) (by decide) (by decide) dX13_lullsSet_13 (fun w2 _ => ?_)
  refine lv_ladd hx hb dX13_lullsSet_14 ?_
  refine tk_anyl (fun w3 => ?_)
  refine lv_aload_n hx hb dX13_lullsSet_15 rfl (lv_at hl 0 rfl) ?_
  refine mz_getR hx hb htl hown hK hM 35 (Nat.le_of_ble_eq_true rfl) (Nat.le_of_ble_eq_true rfl) (htl _ mw_223) (fun _ h9 => h9) dX13_lullsSet_16 ?_
  refine lv_iconst (v := 4) hx hb dX13_lullsSet_19 (by decide) ?_
  refine mz_lald hx hb hK hM 35 (Nat.le_of_ble_eq_true rfl) rfl (nn := 13) rfl (I := 4) (by decide) (by decide) (by decide) dX13_lullsSet_20 (fun w4 _ => ?_)
  refine lv_lconst (v := 1) hx hb dX13_lullsSet_21 (by decide) ?_
  refine W.lcmp hx hb dX13_lullsSet_22 ?_
  have hj11 : ∀ (v10 : Int64), (1 ≤ v10.toInt) → (v10.toInt ≤ 2) → ∀ ls : Array Slot, lv_has ls 1 [] → W p l e ({ frames := 8, cells := 0, slots := 0, locals := 490 }) s m args below meth c H locs 0 0 (MQ below (mz_i D cy ad am (fun r F G R S => mz_IF true F ∧ mz_IG G ∧ mz_IR [] true R ∧ (∀ k : Nat, k ∉ ([34, 38] : List Nat) → F k = Fa k) ∧ (∀ k : Nat, k ∉ ([] : List Nat) → R k = Ra k) ∧ (∀ k : Nat, k ∉ ([39, 40] : List Nat) → G k = Ga k) ∧ 0 ≤ r.toInt ∧ r.toInt ≤ 999)) args s 0 0 (mz_W ad am)) (F0 m 33 ls [.long v10, .long w3, .int 0, .ref am]) := by
    intro v10 hq0_j11 hq1_j11 ls hl
    refine lv_lmul hx hb dX13_lullsSet_33 ?_
    refine tk_anyl (fun w12 => ?_)
    have hk_0 : (0 : Int32).toInt = 0 := by decide
    refine mz_Vl (As := [.int 0, .long w12]) (rest := []) ⟨hx, hb, hml, hown, hts⟩ hK hM hS (k_X13_tells l D cy ld ad am hD _ _ _ _ 0 w12 hIF hIG hIR) ⟨callB_of 2 hts (wl_in mw_1107) rfl rfl rfl (htl _ mw_5) (htl _ mw_1104) hd_yX13_tells ⟨(Nat.le_of_ble_eq_true rfl), (Nat.le_of_ble_eq_true rfl)⟩, htl _ mw_1105, htl _ mw_1106⟩ rfl hl.1 rfl (Nat.le_of_ble_eq_true rfl) dX13_lullsSet_34 ⟨(Nat.le_of_ble_eq_true rfl), (Nat.le_of_ble_eq_true rfl)⟩ (fun w13 H locs F G R S hpo hM hS => ?_)
    obtain ⟨hIF, hIG, hIR, hfr9, hrr9, hgr9⟩ := hpo
    have hq_w13 := tk_rngL w13
    have hFF := mz_fr (K := [34, 38]) (Fa := Fa) hfr9 (fun _ _ => rfl) (by decide)
    have hRR := mz_fr (K := []) (Fa := Ra) hrr9 (fun _ _ => rfl) (by decide)
    have hGG := mz_fr (K := [39, 40]) (Fa := Ga) hgr9 (fun _ _ => rfl) (by decide)
    refine lv_iconst (v := 0) hx hb dX13_lullsSet_37 (by decide) ?_
    refine lv_sipush (v := 999) hx hb dX13_lullsSet_38 (by decide) ?_
    have hk_0 : (0 : Int32).toInt = 0 := by decide
    have hk_999 : (999 : Int32).toInt = 999 := by decide
    refine mz_Sj (As := [.long w13, .int 0, .int 999]) (rest := []) ⟨hx, hb, hml, hown, hts⟩ hK hM hS (k_X13_within l D cy ld ad am hD _ _ _ _ w13 0 999 (by omega)) ⟨callB_of 3 hts (wl_in mw_1125) rfl rfl rfl (htl _ mw_5) (htl _ mw_1123) hd_yX13_within ⟨(Nat.le_of_ble_eq_true rfl), (Nat.le_of_ble_eq_true rfl)⟩, htl _ mw_1124⟩ rfl hl.1 rfl (Nat.le_of_ble_eq_true rfl) dX13_lullsSet_41 ⟨(Nat.le_of_ble_eq_true rfl), (Nat.le_of_ble_eq_true rfl)⟩ (fun v15 H locs hpo hM hS => ?_)
    obtain ⟨hpo16, hpo17⟩ := hpo
    have hq_v15 := tk_rng v15
    exact mz_iret (v := v15) hx hb hr rfl hlocks ⟨hIF, hIG, hIR, hFF, hRR, hGG, (by omega), (by omega)⟩ hM hS dX13_lullsSet_44
  refine lv_if_ne (tgt := 32) hx hb dX13_lullsSet_23 (by decide) (fun c9 => ?_) (fun c9 => ?_)
  · have hc5 : ¬ (w4.toInt = 1) := fun h9 => c9 (((lg_cmp_eq _ _).trans (fl_eq rfl (show (1 : Int64).toInt = 1 by decide))).mpr h9)
    refine lv_lconst (v := 1) hx hb dX13_lullsSet_32 (by decide) ?_
    have hk_1 : (1 : Int64).toInt = 1 := by decide
    exact hj11 1 (by omega) (by omega) _ (lv_sub hl [] rfl)
  · have hc5 : w4.toInt = 1 := ((lg_cmp_eq _ _).trans (fl_eq rfl (show (1 : Int64).toInt = 1 by decide))).mp c9
    refine lv_ldc2 hx hb hown (htl _ mw_1122) dX13_lullsSet_26 ?_
    refine lv_goto (tgt := 33) hx hb dX13_lullsSet_29 (by decide) ?_
    have hk_2 : (2 : Int64).toInt = 2 := by decide
    exact hj11 2 (by omega) (by omega) _ (lv_sub hl [] rfl)
