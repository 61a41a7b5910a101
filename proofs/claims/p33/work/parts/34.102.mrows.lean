theorem dX13_areFoes_0 : decode cX13_areFoes 0 = .ok (.aload_n 0, 1) := by decide +kernel
theorem dX13_areFoes_1 : decode cX13_areFoes 1 = .ok (.iload_n 1, 1) := by decide +kernel
theorem dX13_areFoes_2 : decode cX13_areFoes 2 = .ok (.invokevirtual 201, 3) := by decide +kernel
theorem dX13_areFoes_5 : decode cX13_areFoes 5 = .ok (.ifCond .eq 30, 3) := by decide +kernel
theorem dX13_areFoes_35 : decode cX13_areFoes 35 = .ok (.iconst 0, 1) := by decide +kernel
theorem dX13_areFoes_36 : decode cX13_areFoes 36 = .ok (.ireturn, 1) := by decide +kernel
theorem dX13_areFoes_8 : decode cX13_areFoes 8 = .ok (.aload_n 0, 1) := by decide +kernel
theorem dX13_areFoes_9 : decode cX13_areFoes 9 = .ok (.iload_n 2, 1) := by decide +kernel
theorem dX13_areFoes_10 : decode cX13_areFoes 10 = .ok (.invokevirtual 201, 3) := by decide +kernel
theorem dX13_areFoes_13 : decode cX13_areFoes 13 = .ok (.ifCond .eq 22, 3) := by decide +kernel
theorem dX13_areFoes_16 : decode cX13_areFoes 16 = .ok (.aload_n 0, 1) := by decide +kernel
theorem dX13_areFoes_17 : decode cX13_areFoes 17 = .ok (.iload_n 1, 1) := by decide +kernel
theorem dX13_areFoes_18 : decode cX13_areFoes 18 = .ok (.iconst 2, 1) := by decide +kernel
theorem dX13_areFoes_19 : decode cX13_areFoes 19 = .ok (.invokevirtual 207, 3) := by decide +kernel
theorem dX13_areFoes_22 : decode cX13_areFoes 22 = .ok (.aload_n 0, 1) := by decide +kernel
theorem dX13_areFoes_23 : decode cX13_areFoes 23 = .ok (.iload_n 2, 1) := by decide +kernel
theorem dX13_areFoes_24 : decode cX13_areFoes 24 = .ok (.iconst 2, 1) := by decide +kernel
theorem dX13_areFoes_25 : decode cX13_areFoes 25 = .ok (.invokevirtual 207, 3) := by decide +kernel
theorem dX13_areFoes_28 : decode cX13_areFoes 28 = .ok (.if_icmp .eq 7, 3) := by decide +kernel
theorem dX13_areFoes_31 : decode cX13_areFoes 31 = .ok (.iconst 1, 1) := by decide +kernel
theorem dX13_areFoes_32 : decode cX13_areFoes 32 = .ok (.goto 4, 3) := by decide +kernel
set_option maxHeartbeats 4000000 in
set_option maxRecDepth 100000 in
theorem k_X13_areFoes (l : Launch) (D : va_G) (cy : Nat → ClassId) (ld ad : Nat → Nat) (am : Nat) (hD : mz_D ad am) (Fa : Nat → Int32) (Ga : Nat → Int64) (Ra : Nat → Nat → Int32) (Sa : Nat → Nat → Int64) (p1 : Int32) (p2 : Int32) (hIF : mz_IF false Fa) (hIG : mz_IG Ga) (hIR : mz_IR [] true Ra) : Met l yX13_areFoes (wl yX13_areFoes cX13_areFoes 3 (some .boolean)) ({ frames := 5, cells := 0, slots := 0, locals := 280 }) (mz_p D cy ld ad am Fa Ga Ra Sa [.ref am, .int p1, .int p2]) (mz_j D cy ad am Fa Ga Ra Sa (fun r => (1 ≤ r.toInt → 0 ≤ p1.toInt ∧ p1.toInt ≤ 7 ∧ 0 ≤ p2.toInt ∧ p2.toInt ≤ 7) ∧ 0 ≤ r.toInt ∧ r.toInt ≤ 1 ∧ 0 ≤ r.toInt ∧ r.toInt ≤ 1)) 0 0 (mz_W ad am) := by
  refine mz_met (y := yX13_areFoes) (cc := cX13_areFoes) (maxL := 3) (ret := (some .boolean)) (av := [.ref am, .int p1, .int p2]) _ (by decide) (Nat.le_of_ble_eq_true rfl) ?_
  intro p e s m args below meth c hx hb hr hml hts htl hown hlocks hK H locs hM hS ls hl
  have hown : s.vm.findClass RX13 = some m.cls := hown
  have hl : lv_has ls 3 [(0, .ref am), (1, .int p1), (2, .int p2)] := hl
  have hr_p1 := tk_rng p1
  have hr_p2 := tk_rng p2
  refine lv_aload_n hx hb dX13_areFoes_0 rfl (lv_at hl 0 rfl) ?_
  refine lv_iload_n hx hb dX13_areFoes_1 rfl (lv_at hl 1 rfl) ?_
  refine mz_Vj (As := [.int p1]) (rest := []) ⟨hx, hb, hml, hown, hts⟩ hK hM hS (k_X13_isSinger l D cy ld ad am hD _ _ _ _ p1 hIF hIG hIR) ⟨callB_of 1 hts (wl_in mw_320) rfl rfl rfl (htl _ mw_5) (htl _ mw_317) hd_yX13_isSinger ⟨(Nat.le_of_ble_eq_true rfl), (Nat.le_of_ble_eq_true rfl)⟩, htl _ mw_318, htl _ mw_319⟩ rfl hl.1 rfl (Nat.le_of_ble_eq_true rfl) dX13_areFoes_2 ⟨(Nat.le_of_ble_eq_true rfl), (Nat.le_of_ble_eq_true rfl)⟩ (fun v1 H locs hpo hM hS => ?_)
  obtain ⟨hpo2, hpo3, hpo4, hpo5, hpo6⟩ := hpo
  have hq_v1 := tk_rng v1
  refine lv_if_eq (tgt := 35) hx hb dX13_areFoes_5 (by decide) (fun c9 => ?_) (fun c9 => ?_)
  · have hc11 : v1.toInt = 0 := (fi_eq rfl (show (0 : Int32).toInt = 0 by decide)).mp c9
    refine lv_iconst (v := 0) hx hb dX13_areFoes_35 (by decide) ?_
    have hk_0 : (0 : Int32).toInt = 0 := by decide
    exact mz_jret (v := 0) hx hb hr rfl hlocks ⟨(by omega), (by omega), (by omega), (by omega), (by omega)⟩ hM hS dX13_areFoes_36
  · have hc11 : ¬ (v1.toInt = 0) := fun h9 => c9 ((fi_eq rfl (show (0 : Int32).toInt = 0 by decide)).mpr h9)
    have hwk_12 : 0 ≤ p1.toInt ∧ p1.toInt ≤ 7 := by omega
    refine lv_aload_n hx hb dX13_areFoes_8 rfl (lv_at hl 0 rfl) ?_
    refine lv_iload_n hx hb dX13_areFoes_9 rfl (lv_at hl 2 rfl) ?_
    refine mz_Vj (As := [.int p2]) (rest := []) ⟨hx, hb, hml, hown, hts⟩ hK hM hS (k_X13_isSinger l D cy ld ad am hD _ _ _ _ p2 hIF hIG hIR) ⟨callB_of 1 hts (wl_in mw_320) rfl rfl rfl (htl _ mw_5) (htl _ mw_317) hd_yX13_isSinger ⟨(Nat.le_of_ble_eq_true rfl), (Nat.le_of_ble_eq_true rfl)⟩, htl _ mw_318, htl _ mw_319⟩ rfl hl.1 rfl (Nat.le_of_ble_eq_true rfl) dX13_areFoes_10 ⟨(Nat.le_of_ble_eq_true rfl), (Nat.le_of_ble_eq_true rfl)⟩ (fun v13 H locs hpo hM hS => ?_)
    obtain ⟨hpo14, hpo15, hpo16, hpo17, hpo18⟩ := hpo
    have hq_v13 := tk_rng v13
    refine lv_if_eq (tgt := 35) hx hb dX13_areFoes_13 (by decide) (fun c9 => ?_) (fun c9 => ?_)
    · have hc20 : v13.toInt = 0 := (fi_eq rfl (show (0 : Int32).toInt = 0 by decide)).mp c9
      refine lv_iconst (v := 0) hx hb dX13_areFoes_35 (by decide) ?_
      have hk_0 : (0 : Int32).toInt = 0 := by decide
      exact mz_jret (v := 0) hx hb hr rfl hlocks ⟨(by omega), (by omega), (by omega), (by omega), (by omega)⟩ hM hS dX13_areFoes_36
    · have hc20 : ¬ (v13.toInt = 0) := fun h9 => c9 ((fi_eq rfl (show (0 : Int32).toInt = 0 by decide)).mpr h9)
      have hwk_21 : 0 ≤ p2.toInt ∧ p2.toInt ≤ 7 := by omega
      refine lv_aload_n hx hb dX13_areFoes_16 rfl (lv_at hl 0 rfl) ?_
      refine lv_iload_n hx hb dX13_areFoes_17 rfl (lv_at hl 1 rfl) ?_
      refine lv_iconst (v := 2) hx hb dX13_areFoes_18 (by decide) ?_
      have hk_2 : (2 : Int32).toInt = 2 := by decide
      refine mz_Vj (As := [.int p1, .int 2]) (rest := []) ⟨hx, hb, hml, hown, hts⟩ hK hM hS (k_X13_ofSinger_2 l D cy ld ad am hD _ _ _ _ p1 hIF hIG hIR (by omega) (by omega)) ⟨callB_of 2 hts (wl_in mw_324) rfl rfl rfl (htl _ mw_5) (htl _ mw_321) hd_yX13_ofSinger ⟨(Nat.le_of_ble_eq_true rfl), (Nat.le_of_ble_eq_true rfl)⟩, htl _ mw_322, htl _ mw_323⟩ rfl hl.1 rfl (Nat.le_of_ble_eq_true rfl) dX13_areFoes_19 ⟨(Nat.le_of_ble_eq_true rfl), (Nat.le_of_ble_eq_true rfl)⟩ (fun v22 H locs hpo hM hS => ?_)
      obtain ⟨hpo23, hpo24⟩ := hpo
      have hq_v22 := tk_rng v22
      refine lv_aload_n hx hb dX13_areFoes_22 rfl (lv_at hl 0 rfl) ?_
      refine lv_iload_n hx hb dX13_areFoes_23 rfl (lv_at hl 2 rfl) ?_
      refine lv_iconst (v := 2) hx hb dX13_areFoes_24 (by decide) ?_
      have hk_2 : (2 : Int32).toInt = 2 := by decide
      refine mz_Vj (As := [.int p2, .int 2]) (rest := [.int v22]) ⟨hx, hb, hml, hown, hts⟩ hK hM hS (k_X13_ofSinger_2 l D cy ld ad am hD _ _ _ _ p2 hIF hIG hIR (by omega) (by omega)) ⟨callB_of 2 hts (wl_in mw_324) rfl rfl rfl (htl _ mw_5) (htl _ mw_321) hd_yX13_ofSinger ⟨(Nat.le_of_ble_eq_true rfl), (Nat.le_of_ble_eq_true rfl)⟩, htl _ mw_322, htl _ mw_323⟩ rfl hl.1 rfl (Nat.le_of_ble_eq_true rfl) dX13_areFoes_25 ⟨(Nat.le_of_ble_eq_true rfl), (Nat.le_of_ble_eq_true rfl)⟩ (fun v26 H locs hpo hM hS => ?_)
      obtain ⟨hpo27, hpo28⟩ := hpo
      have hq_v26 := tk_rng v26
      refine lv_icmp_eq (tgt := 35) hx hb dX13_areFoes_28 (by decide) (fun c9 => ?_) (fun c9 => ?_)
      · have hc30 : v22.toInt = v26.toInt := (fi_eq rfl rfl).mp c9
        refine lv_iconst (v := 0) hx hb dX13_areFoes_35 (by decide) ?_
        have hk_0 : (0 : Int32).toInt = 0 := by decide
        exact mz_jret (v := 0) hx hb hr rfl hlocks ⟨(by omega), (by omega), (by omega), (by omega), (by omega)⟩ hM hS dX13_areFoes_36
      · have hc30 : ¬ (v22.toInt = v26.toInt) := fun h9 => c9 ((fi_eq rfl rfl).mpr h9)
        refine lv_iconst (v := 1) hx hb dX13_areFoes_31 (by decide) ?_
        refine lv_goto (tgt := 36) hx hb dX13_areFoes_32 (by decide) ?_
        have hk_1 : (1 : Int32).toInt = 1 := by decide
        exact mz_jret (v := 1) hx hb hr rfl hlocks ⟨(by omega), (by omega), (by omega), (by omega), (by omega)⟩ hM hS dX13_areFoes_36
