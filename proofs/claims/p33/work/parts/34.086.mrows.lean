theorem dX13_isUp_0 : decode cX13_isUp 0 = .ok (.aload_n 0, 1) := by decide +kernel
theorem dX13_isUp_1 : decode cX13_isUp 1 = .ok (.iload_n 1, 1) := by decide +kernel
theorem dX13_isUp_2 : decode cX13_isUp 2 = .ok (.iconst 3, 1) := by decide +kernel
theorem dX13_isUp_3 : decode cX13_isUp 3 = .ok (.invokevirtual 207, 3) := by decide +kernel
theorem dX13_isUp_6 : decode cX13_isUp 6 = .ok (.ifCond .ne 16, 3) := by decide +kernel
theorem dX13_isUp_22 : decode cX13_isUp 22 = .ok (.iconst 0, 1) := by decide +kernel
theorem dX13_isUp_23 : decode cX13_isUp 23 = .ok (.ireturn, 1) := by decide +kernel
theorem dX13_isUp_9 : decode cX13_isUp 9 = .ok (.aload_n 0, 1) := by decide +kernel
theorem dX13_isUp_10 : decode cX13_isUp 10 = .ok (.iload_n 1, 1) := by decide +kernel
theorem dX13_isUp_11 : decode cX13_isUp 11 = .ok (.iconst 0, 1) := by decide +kernel
theorem dX13_isUp_12 : decode cX13_isUp 12 = .ok (.invokevirtual 207, 3) := by decide +kernel
theorem dX13_isUp_15 : decode cX13_isUp 15 = .ok (.ifCond .le 7, 3) := by decide +kernel
theorem dX13_isUp_18 : decode cX13_isUp 18 = .ok (.iconst 1, 1) := by decide +kernel
theorem dX13_isUp_19 : decode cX13_isUp 19 = .ok (.goto 4, 3) := by decide +kernel
set_option maxHeartbeats 4000000 in
set_option maxRecDepth 100000 in
theorem k_X13_isUp (l : Launch) (D : va_G) (cy : Nat → ClassId) (ld ad : Nat → Nat) (am : Nat) (hD : mz_D ad am) (Fa : Nat → Int32) (Ga : Nat → Int64) (Ra : Nat → Nat → Int32) (Sa : Nat → Nat → Int64) (p1 : Int32) (hIF : mz_IF false Fa) (hIG : mz_IG Ga) (hIR : mz_IR [] true Ra) (hp_0 : 0 ≤ p1.toInt) (hp_1 : p1.toInt ≤ 7) : Met l yX13_isUp (wl yX13_isUp cX13_isUp 2 (some .boolean)) ({ frames := 4, cells := 0, slots := 0, locals := 210 }) (mz_p D cy ld ad am Fa Ga Ra Sa [.ref am, .int p1]) (mz_j D cy ad am Fa Ga Ra Sa (fun r => 0 ≤ r.toInt ∧ r.toInt ≤ 1 ∧ 0 ≤ r.toInt ∧ r.toInt ≤ 1)) 0 0 (mz_W ad am) := by
  refine mz_met (y := yX13_isUp) (cc := cX13_isUp) (maxL := 2) (ret := (some .boolean)) (av := [.ref am, .int p1]) _ (by decide) (Nat.le_of_ble_eq_true rfl) ?_
  intro p e s m args below meth c hx hb hr hml hts htl hown hlocks hK H locs hM hS ls hl
  have hown : s.vm.findClass RX13 = some m.cls := hown
  have hl : lv_has ls 2 [(0, .ref am), (1, .int p1)] := hl
  have hr_p1 := tk_rng p1
  refine lv_aload_n hx hb dX13_isUp_0 rfl (lv_at hl 0 rfl) ?_
  refine lv_iload_n hx hb dX13_isUp_1 rfl (lv_at hl 1 rfl) ?_
  refine lv_iconst (v := 3) hx hb dX13_isUp_2 (by decide) ?_
  have hk_3 : (3 : Int32).toInt = 3 := by decide
  refine mz_Vj (As := [.int p1, .int 3]) (rest := []) ⟨hx, hb, hml, hown, hts⟩ hK hM hS (k_X13_ofSinger_3 l D cy ld ad am hD _ _ _ _ p1 hIF hIG hIR (by omega) (by omega)) ⟨callB_of 2 hts (wl_in mw_324) rfl rfl rfl (htl _ mw_5) (htl _ mw_321) hd_yX13_ofSinger ⟨(Nat.le_of_ble_eq_true rfl), (Nat.le_of_ble_eq_true rfl)⟩, htl _ mw_322, htl _ mw_323⟩ rfl hl.1 rfl (Nat.le_of_ble_eq_true rfl) dX13_isUp_3 ⟨(Nat.le_of_ble_eq_true rfl), (Nat.le_of_ble_eq_true rfl)⟩ (fun v1 H locs hpo hM hS => ?_)
  obtain ⟨hpo2, hpo3⟩ := hpo
  have hq_v1 := tk_rng v1
  refine lv_if_ne (tgt := 22) hx hb dX13_isUp_6 (by decide) (fun c9 => ?_) (fun c9 => ?_)
  · have hc5 : ¬ (v1.toInt = 0) := fun h9 => c9 ((fi_eq rfl (show (0 : Int32).toInt = 0 by decide)).mpr h9)
    refine lv_iconst (v := 0) hx hb dX13_isUp_22 (by decide) ?_
    have hk_0 : (0 : Int32).toInt = 0 := by decide
    exact mz_jret (v := 0) hx hb hr rfl hlocks ⟨(by omega), (by omega), (by omega), (by omega)⟩ hM hS dX13_isUp_23
  · have hc5 : v1.toInt = 0 := (fi_eq rfl (show (0 : Int32).toInt = 0 by decide)).mp c9
    refine lv_aload_n hx hb dX13_isUp_9 rfl (lv_at hl 0 rfl) ?_
    refine lv_iload_n hx hb dX13_isUp_10 rfl (lv_at hl 1 rfl) ?_
    refine lv_iconst (v := 0) hx hb dX13_isUp_11 (by decide) ?_
    have hk_0 : (0 : Int32).toInt = 0 := by decide
    refine mz_Vj (As := [.int p1, .int 0]) (rest := []) ⟨hx, hb, hml, hown, hts⟩ hK hM hS (k_X13_ofSinger_0 l D cy ld ad am hD _ _ _ _ p1 hIF hIG hIR (by omega) (by omega)) ⟨callB_of 2 hts (wl_in mw_324) rfl rfl rfl (htl _ mw_5) (htl _ mw_321) hd_yX13_ofSinger ⟨(Nat.le_of_ble_eq_true rfl), (Nat.le_of_ble_eq_true rfl)⟩, htl _ mw_322, htl _ mw_323⟩ rfl hl.1 rfl (Nat.le_of_ble_eq_true rfl) dX13_isUp_12 ⟨(Nat.le_of_ble_eq_true rfl), (Nat.le_of_ble_eq_true rfl)⟩ (fun v6 H locs hpo hM hS => ?_)
    have hq_v6 := tk_rng v6
    refine lv_if_le (tgt := 22) hx hb dX13_isUp_15 (by decide) (fun c9 => ?_) (fun c9 => ?_)
    · have hc11 : v6.toInt ≤ 0 := (fi_le rfl (show (0 : Int32).toInt = 0 by decide)).mp c9
      refine lv_iconst (v := 0) hx hb dX13_isUp_22 (by decide) ?_
      have hk_0 : (0 : Int32).toInt = 0 := by decide
      exact mz_jret (v := 0) hx hb hr rfl hlocks ⟨(by omega), (by omega), (by omega), (by omega)⟩ hM hS dX13_isUp_23
    · have hc11 : ¬ (v6.toInt ≤ 0) := fun h9 => c9 ((fi_le rfl (show (0 : Int32).toInt = 0 by decide)).mpr h9)
      refine lv_iconst (v := 1) hx hb dX13_isUp_18 (by decide) ?_
      refine lv_goto (tgt := 23) hx hb dX13_isUp_19 (by decide) ?_
      have hk_1 : (1 : Int32).toInt = 1 := by decide
      exact mz_jret (v := 1) hx hb hr rfl hlocks ⟨(by omega), (by omega), (by omega), (by omega)⟩ hM hS dX13_isUp_23
