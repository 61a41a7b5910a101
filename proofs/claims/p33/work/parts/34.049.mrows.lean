theorem dX13_isCompared_0 : decode cX13_isCompared 0 = .ok (.aload_n 0, 1) := by decide +kernel
theorem dX13_isCompared_1 : decode cX13_isCompared 1 = .ok (.getfield 278, 3) := by decide +kernel
theorem dX13_isCompared_4 : decode cX13_isCompared 4 = .ok (.iconst 1, 1) := by decide +kernel
theorem dX13_isCompared_5 : decode cX13_isCompared 5 = .ok (.isub, 1) := by decide +kernel
theorem dX13_isCompared_6 : decode cX13_isCompared 6 = .ok (.istore_n 1, 1) := by decide +kernel
theorem dX13_isCompared_7 : decode cX13_isCompared 7 = .ok (.iload_n 1, 1) := by decide +kernel
theorem dX13_isCompared_36 : decode cX13_isCompared 36 = .ok (.iload_n 1, 1) := by decide +kernel
theorem dX13_isCompared_37 : decode cX13_isCompared 37 = .ok (.ifCond .lt 26, 3) := by decide +kernel
theorem dX13_isCompared_63 : decode cX13_isCompared 63 = .ok (.iconst 0, 1) := by decide +kernel
theorem dX13_isCompared_64 : decode cX13_isCompared 64 = .ok (.ireturn, 1) := by decide +kernel
theorem dX13_isCompared_40 : decode cX13_isCompared 40 = .ok (.aload_n 0, 1) := by decide +kernel
theorem dX13_isCompared_41 : decode cX13_isCompared 41 = .ok (.getfield 51, 3) := by decide +kernel
theorem dX13_isCompared_44 : decode cX13_isCompared 44 = .ok (.iload_n 1, 1) := by decide +kernel
theorem dX13_isCompared_45 : decode cX13_isCompared 45 = .ok (.iaload, 1) := by decide +kernel
theorem dX13_isCompared_46 : decode cX13_isCompared 46 = .ok (.i2l, 1) := by decide +kernel
theorem dX13_isCompared_47 : decode cX13_isCompared 47 = .ok (.ldc2_w 292, 3) := by decide +kernel
theorem dX13_isCompared_50 : decode cX13_isCompared 50 = .ok (.ldc2_w 294, 3) := by decide +kernel
theorem dX13_isCompared_53 : decode cX13_isCompared 53 = .ok (.invokestatic 190, 3) := by decide +kernel
theorem dX13_isCompared_56 : decode cX13_isCompared 56 = .ok (.ifCond .eq 7, 3) := by decide +kernel
theorem dX13_isCompared_59 : decode cX13_isCompared 59 = .ok (.iconst 1, 1) := by decide +kernel
theorem dX13_isCompared_60 : decode cX13_isCompared 60 = .ok (.goto 4, 3) := by decide +kernel
theorem dX13_isCompared_8 : decode cX13_isCompared 8 = .ok (.ifCond .lt 28, 3) := by decide +kernel
theorem dX13_isCompared_11 : decode cX13_isCompared 11 = .ok (.aload_n 0, 1) := by decide +kernel
theorem dX13_isCompared_12 : decode cX13_isCompared 12 = .ok (.getfield 51, 3) := by decide +kernel
theorem dX13_isCompared_15 : decode cX13_isCompared 15 = .ok (.iload_n 1, 1) := by decide +kernel
theorem dX13_isCompared_16 : decode cX13_isCompared 16 = .ok (.iaload, 1) := by decide +kernel
theorem dX13_isCompared_17 : decode cX13_isCompared 17 = .ok (.i2l, 1) := by decide +kernel
theorem dX13_isCompared_18 : decode cX13_isCompared 18 = .ok (.ldc2_w 288, 3) := by decide +kernel
theorem dX13_isCompared_21 : decode cX13_isCompared 21 = .ok (.ldc2_w 290, 3) := by decide +kernel
theorem dX13_isCompared_24 : decode cX13_isCompared 24 = .ok (.invokestatic 190, 3) := by decide +kernel
theorem dX13_isCompared_27 : decode cX13_isCompared 27 = .ok (.ifCond .eq 9, 3) := by decide +kernel
theorem dX13_isCompared_30 : decode cX13_isCompared 30 = .ok (.iinc 1 (-1), 3) := by decide +kernel
theorem dX13_isCompared_33 : decode cX13_isCompared 33 = .ok (.goto (-26), 3) := by decide +kernel
set_option maxHeartbeats 4000000 in
set_option maxRecDepth 100000 in
theorem k_X13_isCompared (l : Launch) (D : va_G) (cy : Nat → ClassId) (ld ad : Nat → Nat) (am : Nat) (hD : mz_D ad am) (Fa : Nat → Int32) (Ga : Nat → Int64) (Ra : Nat → Nat → Int32) (Sa : Nat → Nat → Int64) (hIF : mz_IF false Fa) (hIG : mz_IG Ga) (hIR : mz_IR [] true Ra) : Met l yX13_isCompared (wl yX13_isCompared cX13_isCompared 2 (some .boolean)) ({ frames := 4, cells := 0, slots := 0, locals := 210 }) (mz_p D cy ld ad am Fa Ga Ra Sa [.ref am]) (mz_j D cy ad am Fa Ga Ra Sa (fun r => 0 ≤ r.toInt ∧ r.toInt ≤ 1 ∧ 0 ≤ r.toInt ∧ r.toInt ≤ 1)) 0 0 (mz_W ad am) := by
  refine mz_met (y := yX13_isCompared) (cc := cX13_isCompared) (maxL := 2) (ret := (some .boolean)) (av := [.ref am]) _ (by decide) (Nat.le_of_ble_eq_true rfl) ?_
  intro p e s m args below meth c hx hb hr hml hts htl hown hlocks hK H locs hM hS ls hl
  have hown : s.vm.findClass RX13 = some m.cls := hown
  have hl : lv_has ls 2 [(0, .ref am)] := hl
  refine lv_aload_n hx hb dX13_isCompared_0 rfl (lv_at hl 0 rfl) ?_
  refine mz_getI hx hb htl hown hK hM 29 (Nat.le_of_ble_eq_true rfl) rfl (htl _ mw_718) (fun _ h9 => h9) dX13_isCompared_1 (fun v2 hf1 => ?_)
  have hq_v2 := tk_rng v2
  have hr_v2 : 0 ≤ v2.toInt ∧ v2.toInt ≤ 400 := hIF.at hf1
  refine lv_iconst (v := 1) hx hb dX13_isCompared_4 (by decide) ?_
  refine lv_isub hx hb dX13_isCompared_5 ?_
  refine tk_sub rfl (show (1 : Int32).toInt = 1 by decide) (by omega) (by omega) (fun v3 h_v3 => ?_)
  refine lv_istore_n (lv' := [(1, .int v3), (0, .ref am)]) hx hb dX13_isCompared_6 rfl hl (by decide) rfl (fun ls hl => ?_)
  have hl291 : ∀ (N_l291 : Nat) (v49 : Int32) (H : Heap) (locs : List Loc), ((-1) ≤ v49.toInt) → (0 ≤ v2.toInt + (-1) * v49.toInt + (-1)) → (mz_S D cy ad am Fa Ga Ra Sa H) → (va_S (mz_W ad am) s.heap H locs) → (v49.toInt + 1 < (N_l291 : Int)) → ∀ ls : Array Slot, lv_has ls 2 [(1, .int v49), (0, .ref am)] → W p l e ({ frames := 4, cells := 0, slots := 0, locals := 210 }) s m args below meth c H locs 0 0 (MQ below (mz_j D cy ad am Fa Ga Ra Sa (fun r => 0 ≤ r.toInt ∧ r.toInt ≤ 1 ∧ 0 ≤ r.toInt ∧ r.toInt ≤ 1)) args s 0 0 (mz_W ad am)) (F0 m 7 ls []) := by
    intro N_l291
    induction N_l291 with
    | zero => intro v49 H locs hq0_l291 hq1_l291 hM hS hm_l291 ls hl; exfalso; omega
    | succ N_l291 ih_l291 =>
      intro v49 H locs hq0_l291 hq1_l291 hM hS hm_l291 ls hl
      refine lv_iload_n hx hb dX13_isCompared_7 rfl (lv_at hl 0 rfl) ?_
      have hj307 : ∀ (H : Heap) (locs : List Loc), (mz_S D cy ad am Fa Ga Ra Sa H) → (va_S (mz_W ad am) s.heap H locs) → ∀ ls : Array Slot, lv_has ls 2 [(1, .int v49), (0, .ref am)] → W p l e ({ frames := 4, cells := 0, slots := 0, locals := 210 }) s m args below meth c H locs 0 0 (MQ below (mz_j D cy ad am Fa Ga Ra Sa (fun r => 0 ≤ r.toInt ∧ r.toInt ≤ 1 ∧ 0 ≤ r.toInt ∧ r.toInt ≤ 1)) args s 0 0 (mz_W ad am)) (F0 m 36 ls []) := by
        intro H locs hM hS ls hl
        refine lv_iload_n hx hb dX13_isCompared_36 rfl (lv_at hl 0 rfl) ?_
        refine lv_if_lt (tgt := 63) hx hb dX13_isCompared_37 (by decide) (fun c9 => ?_) (fun c9 => ?_)
        · have hc308 : v49.toInt < 0 := (fi_lt rfl (show (0 : Int32).toInt = 0 by decide)).mp c9
          refine lv_iconst (v := 0) hx hb dX13_isCompared_63 (by decide) ?_
          have hk_0 : (0 : Int32).toInt = 0 := by decide
          exact mz_jret (v := 0) hx hb hr rfl hlocks ⟨(by omega), (by omega), (by omega), (by omega)⟩ hM hS dX13_isCompared_64
        · have hc308 : ¬ (v49.toInt < 0) := fun h9 => c9 ((fi_lt rfl (show (0 : Int32).toInt = 0 by decide)).mpr h9)
          refine lv_aload_n hx hb dX13_isCompared_40 rfl (lv_at hl 1 rfl) ?_
          refine mz_getR hx hb htl hown hK hM 27 (Nat.le_of_ble_eq_true rfl) (Nat.le_of_ble_eq_true rfl) (htl _ mw_200) (fun _ h9 => h9) dX13_isCompared_41 ?_
          refine lv_iload_n hx hb dX13_isCompared_44 rfl (lv_at hl 0 rfl) ?_
          refine mz_iald hx hb hK hM 27 (Nat.le_of_ble_eq_true rfl) rfl (nn := 400) rfl rfl (by omega) (by omega) dX13_isCompared_45 (fun v309 e_v309 => ?_)
          have hq_v309 := tk_rng v309
          obtain ⟨w310, e_w310, h_w310⟩ : ∃ z : Int64, v309.toInt64 = z ∧ z.toInt = v309.toInt := ⟨_, rfl, fl_w _⟩
          refine lv_i2l (v := w310) hx hb dX13_isCompared_46 e_w310 ?_
          refine lv_ldc2 hx hb hown (htl _ mw_784) dX13_isCompared_47 ?_
          refine lv_ldc2 hx hb hown (htl _ mw_785) dX13_isCompared_50 ?_
          have hk_25 : (25 : Int64).toInt = 25 := by decide
          have hk_27 : (27 : Int64).toInt = 27 := by decide
          refine mz_Sj (As := [.long w310, .long 25, .long 27]) (rest := []) ⟨hx, hb, hml, hown, hts⟩ hK hM hS (k_X13_in l D cy ld ad am hD _ _ _ _ w310 25 27) ⟨callB_of 3 hts (wl_in mw_292) rfl rfl rfl (htl _ mw_5) (htl _ mw_290) hd_yX13_in ⟨(Nat.le_of_ble_eq_true rfl), (Nat.le_of_ble_eq_true rfl)⟩, htl _ mw_291⟩ rfl hl.1 rfl (Nat.le_of_ble_eq_true rfl) dX13_isCompared_53 ⟨(Nat.le_of_ble_eq_true rfl), (Nat.le_of_ble_eq_true rfl)⟩ (fun v311 H locs hpo hM hS => ?_)
          obtain ⟨hpo312, hpo313, hpo314, hpo315, hpo316, hpo317⟩ := hpo
          have hq_v311 := tk_rng v311
          refine lv_if_eq (tgt := 63) hx hb dX13_isCompared_56 (by decide) (fun c9 => ?_) (fun c9 => ?_)
          · have hc319 : v311.toInt = 0 := (fi_eq rfl (show (0 : Int32).toInt = 0 by decide)).mp c9
            refine lv_iconst (v := 0) hx hb dX13_isCompared_63 (by decide) ?_
            have hk_0 : (0 : Int32).toInt = 0 := by decide
            exact mz_jret (v := 0) hx hb hr rfl hlocks ⟨(by omega), (by omega), (by omega), (by omega)⟩ hM hS dX13_isCompared_64
          · have hc319 : ¬ (v311.toInt = 0) := fun h9 => c9 ((fi_eq rfl (show (0 : Int32).toInt = 0 by decide)).mpr h9)
            have hwk_320 : 25 ≤ w310.toInt ∧ w310.toInt ≤ 27 := by omega
            refine lv_iconst (v := 1) hx hb dX13_isCompared_59 (by decide) ?_
            refine lv_goto (tgt := 64) hx hb dX13_isCompared_60 (by decide) ?_
            have hk_1 : (1 : Int32).toInt = 1 := by decide
            exact mz_jret (v := 1) hx hb hr rfl hlocks ⟨(by omega), (by omega), (by omega), (by omega)⟩ hM hS dX13_isCompared_64
      refine lv_if_lt (tgt := 36) hx hb dX13_isCompared_8 (by decide) (fun c9 => ?_) (fun c9 => ?_)
      · have hc292 : v49.toInt < 0 := (fi_lt rfl (show (0 : Int32).toInt = 0 by decide)).mp c9
        exact hj307 _ _ hM hS _ (lv_sub hl [0, 1] rfl)
      · have hc292 : ¬ (v49.toInt < 0) := fun h9 => c9 ((fi_lt rfl (show (0 : Int32).toInt = 0 by decide)).mpr h9)
        refine lv_aload_n hx hb dX13_isCompared_11 rfl (lv_at hl 1 rfl) ?_
        refine mz_getR hx hb htl hown hK hM 27 (Nat.le_of_ble_eq_true rfl) (Nat.le_of_ble_eq_true rfl) (htl _ mw_200) (fun _ h9 => h9) dX13_isCompared_12 ?_
        refine lv_iload_n hx hb dX13_isCompared_15 rfl (lv_at hl 0 rfl) ?_
        refine mz_iald hx hb hK hM 27 (Nat.le_of_ble_eq_true rfl) rfl (nn := 400) rfl rfl (by omega) (by omega) dX13_isCompared_16 (fun v321 e_v321 => ?_)
        have hq_v321 := tk_rng v321
        obtain ⟨w322, e_w322, h_w322⟩ : ∃ z : Int64, v321.toInt64 = z ∧ z.toInt = v321.toInt := ⟨_, rfl, fl_w _⟩
        refine lv_i2l (v := w322) hx hb dX13_isCompared_17 e_w322 ?_
        refine lv_ldc2 hx hb hown (htl _ mw_782) dX13_isCompared_18 ?_
        refine lv_ldc2 hx hb hown (htl _ mw_783) dX13_isCompared_21 ?_
        have hk_20 : (20 : Int64).toInt = 20 := by decide
        have hk_24 : (24 : Int64).toInt = 24 := by decide
        refine mz_Sj (As := [.long w322, .long 20, .long 24]) (rest := []) ⟨hx, hb, hml, hown, hts⟩ hK hM hS (k_X13_in l D cy ld ad am hD _ _ _ _ w322 20 24) ⟨callB_of 3 hts (wl_in mw_292) rfl rfl rfl (htl _ mw_5) (htl _ mw_290) hd_yX13_in ⟨(Nat.le_of_ble_eq_true rfl), (Nat.le_of_ble_eq_true rfl)⟩, htl _ mw_291⟩ rfl hl.1 rfl (Nat.le_of_ble_eq_true rfl) dX13_isCompared_24 ⟨(Nat.le_of_ble_eq_true rfl), (Nat.le_of_ble_eq_true rfl)⟩ (fun v323 H locs hpo hM hS => ?_)
        obtain ⟨hpo324, hpo325, hpo326, hpo327, hpo328, hpo329⟩ := hpo
        have hq_v323 := tk_rng v323
        refine lv_if_eq (tgt := 36) hx hb dX13_isCompared_27 (by decide) (fun c9 => ?_) (fun c9 => ?_)
        · have hc331 : v323.toInt = 0 := (fi_eq rfl (show (0 : Int32).toInt = 0 by decide)).mp c9
          exact hj307 _ _ hM hS _ (lv_sub hl [0, 1] rfl)
        · have hc331 : ¬ (v323.toInt = 0) := fun h9 => c9 ((fi_eq rfl (show (0 : Int32).toInt = 0 by decide)).mpr h9)
          have hwk_333 : 20 ≤ w322.toInt ∧ w322.toInt ≤ 24 := by omega
          obtain ⟨v332, h_v332, e_v332⟩ := tk_inc v49 (-1) (by decide) (by omega) (by omega)
          refine lv_iinc (v := v332) (lv' := [(1, .int v332), (0, .ref am)]) hx hb dX13_isCompared_30 hl (k := 0) rfl e_v332 (by decide) rfl (fun ls hl => ?_)
          refine lv_goto (tgt := 7) hx hb dX13_isCompared_33 (by decide) ?_
          exact ih_l291 v332 _ _ (by omega) (by omega) hM hS (by omega) _ (lv_sub hl [0, 1] rfl)
  exact hl291 401 v3 _ _ (by omega) (by omega) hM hS (by omega) _ (lv_sub hl [0, 1] rfl)
