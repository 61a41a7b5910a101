theorem dX13_listener_0 : decode cX13_listener 0 = .ok (.aload_n 0, 1) := by decide +kernel
theorem dX13_listener_1 : decode cX13_listener 1 = .ok (.iconst 4, 1) := by decide +kernel
theorem dX13_listener_2 : decode cX13_listener 2 = .ok (.invokevirtual 194, 3) := by decide +kernel
theorem dX13_listener_5 : decode cX13_listener 5 = .ok (.aload_n 0, 1) := by decide +kernel
theorem dX13_listener_6 : decode cX13_listener 6 = .ok (.iconst 0, 1) := by decide +kernel
theorem dX13_listener_7 : decode cX13_listener 7 = .ok (.invokevirtual 194, 3) := by decide +kernel
theorem dX13_listener_10 : decode cX13_listener 10 = .ok (.if_icmp .ne 11, 3) := by decide +kernel
theorem dX13_listener_21 : decode cX13_listener 21 = .ok (.aload_n 0, 1) := by decide +kernel
theorem dX13_listener_22 : decode cX13_listener 22 = .ok (.iconst 0, 1) := by decide +kernel
theorem dX13_listener_23 : decode cX13_listener 23 = .ok (.invokevirtual 194, 3) := by decide +kernel
theorem dX13_listener_26 : decode cX13_listener 26 = .ok (.ireturn, 1) := by decide +kernel
theorem dX13_listener_13 : decode cX13_listener 13 = .ok (.aload_n 0, 1) := by decide +kernel
theorem dX13_listener_14 : decode cX13_listener 14 = .ok (.iconst 1, 1) := by decide +kernel
theorem dX13_listener_15 : decode cX13_listener 15 = .ok (.invokevirtual 194, 3) := by decide +kernel
theorem dX13_listener_18 : decode cX13_listener 18 = .ok (.goto 8, 3) := by decide +kernel
set_option maxHeartbeats 4000000 in
set_option maxRecDepth 100000 in
theorem k_X13_listener (l : Launch) (D : va_G) (cy : Nat → ClassId) (ld ad : Nat → Nat) (am : Nat) (hD : mz_D ad am) (Fa : Nat → Int32) (Ga : Nat → Int64) (Ra : Nat → Nat → Int32) (Sa : Nat → Nat → Int64) (g12 : Int32) (g13 : Int32) (g16 : Int32) (hIF : mz_IF false Fa) (hIG : mz_IG Ga) (hIR : mz_IR [] true Ra) (hg_0 : Ra 3 12 = g12) (hg_1 : Ra 3 13 = g13) (hg_2 : Ra 3 16 = g16) : Met l yX13_listener (wl yX13_listener cX13_listener 1 (some .int)) ({ frames := 4, cells := 0, slots := 0, locals := 210 }) (mz_p D cy ld ad am Fa Ga Ra Sa [.ref am]) (mz_j D cy ad am Fa Ga Ra Sa (fun r => (0 ≤ g12.toInt → 0 ≤ r.toInt) ∧ (-1) ≤ r.toInt ∧ r.toInt ≤ 7 ∧ ((-1) * g12.toInt + g16.toInt = 0 → (-1) * g13.toInt + r.toInt = 0) ∧ (0 ≤ (-1) * g12.toInt + g16.toInt + (-1) → (-1) * g12.toInt + r.toInt = 0) ∧ (0 ≤ g12.toInt + (-1) * g16.toInt + (-1) → (-1) * g12.toInt + r.toInt = 0))) 0 0 (mz_W ad am) := by
  refine mz_met (y := yX13_listener) (cc := cX13_listener) (maxL := 1) (ret := (some .int)) (av := [.ref am]) _ (by decide) (Nat.le_of_ble_eq_true rfl) ?_
  intro p e s m args below meth c hx hb hr hml hts htl hown hlocks hK H locs hM hS ls hl
  have hown : s.vm.findClass RX13 = some m.cls := hown
  have hl : lv_has ls 1 [(0, .ref am)] := hl
  have hq_g12 := tk_rng g12
  have hq_g13 := tk_rng g13
  have hq_g16 := tk_rng g16
  have hr_g12 : (-1) ≤ g12.toInt ∧ g12.toInt ≤ 7 := by have h9 := hIR.d; unfold dO at h9; rw [hg_0] at h9; omega
  have hr_g13 : (-1) ≤ g13.toInt ∧ g13.toInt ≤ 7 := by have h9 := hIR.d; unfold dO at h9; rw [hg_1] at h9; omega
  have hti_0 : g12.toInt ≠ -1 → g13.toInt ≠ -1 := by have h9 := hIR.d.2.2.2.2.2; rw [hg_0, hg_1] at h9; exact fun h8 => (h9 h8).1
  have hr_g16 : (-1) ≤ g16.toInt ∧ g16.toInt ≤ 7 := by have h9 := hIR.d; unfold dO at h9; rw [hg_2] at h9; omega
  have hti_1 : g12.toInt ≠ -1 → g16.toInt ≠ -1 := by have h9 := hIR.d.2.2.2.2.2; rw [hg_0, hg_2] at h9; exact fun h8 => (h9 h8).2.2
  refine lv_aload_n hx hb dX13_listener_0 rfl (lv_at hl 0 rfl) ?_
  refine lv_iconst (v := 4) hx hb dX13_listener_1 (by decide) ?_
  have hk_4 : (4 : Int32).toInt = 4 := by decide
  refine mz_Vj (As := [.int 4]) (rest := []) ⟨hx, hb, hml, hown, hts⟩ hK hM hS (k_X13_inDuel_4 l D cy ld ad am hD _ _ _ _ g16 hg_2) ⟨callB_of 1 hts (wl_in mw_1046) rfl rfl rfl (htl _ mw_5) (htl _ mw_1043) hd_yX13_inDuel ⟨(Nat.le_of_ble_eq_true rfl), (Nat.le_of_ble_eq_true rfl)⟩, htl _ mw_1044, htl _ mw_1045⟩ rfl hl.1 rfl (Nat.le_of_ble_eq_true rfl) dX13_listener_2 ⟨(Nat.le_of_ble_eq_true rfl), (Nat.le_of_ble_eq_true rfl)⟩ (fun v3 H locs hpo hM hS => ?_)
  have hpo4 := hpo
  have hq_v3 := tk_rng v3
  refine lv_aload_n hx hb dX13_listener_5 rfl (lv_at hl 0 rfl) ?_
  refine lv_iconst (v := 0) hx hb dX13_listener_6 (by decide) ?_
  have hk_0 : (0 : Int32).toInt = 0 := by decide
  refine mz_Vj (As := [.int 0]) (rest := [.int v3]) ⟨hx, hb, hml, hown, hts⟩ hK hM hS (k_X13_inDuel_0 l D cy ld ad am hD _ _ _ _ g12 hg_0) ⟨callB_of 1 hts (wl_in mw_1046) rfl rfl rfl (htl _ mw_5) (htl _ mw_1043) hd_yX13_inDuel ⟨(Nat.le_of_ble_eq_true rfl), (Nat.le_of_ble_eq_true rfl)⟩, htl _ mw_1044, htl _ mw_1045⟩ rfl hl.1 rfl (Nat.le_of_ble_eq_true rfl) dX13_listener_7 ⟨(Nat.le_of_ble_eq_true rfl), (Nat.le_of_ble_eq_true rfl)⟩ (fun v6 H locs hpo hM hS => ?_)
  have hpo10 := hpo
  have hq_v6 := tk_rng v6
  refine lv_icmp_ne (tgt := 21) hx hb dX13_listener_10 (by decide) (fun c9 => ?_) (fun c9 => ?_)
  · have hc12 : ¬ (v3.toInt = v6.toInt) := fun h9 => c9 ((fi_eq rfl rfl).mpr h9)
    refine lv_aload_n hx hb dX13_listener_21 rfl (lv_at hl 0 rfl) ?_
    refine lv_iconst (v := 0) hx hb dX13_listener_22 (by decide) ?_
    have hk_0 : (0 : Int32).toInt = 0 := by decide
    refine mz_Vj (As := [.int 0]) (rest := []) ⟨hx, hb, hml, hown, hts⟩ hK hM hS (k_X13_inDuel_0 l D cy ld ad am hD _ _ _ _ g12 hg_0) ⟨callB_of 1 hts (wl_in mw_1046) rfl rfl rfl (htl _ mw_5) (htl _ mw_1043) hd_yX13_inDuel ⟨(Nat.le_of_ble_eq_true rfl), (Nat.le_of_ble_eq_true rfl)⟩, htl _ mw_1044, htl _ mw_1045⟩ rfl hl.1 rfl (Nat.le_of_ble_eq_true rfl) dX13_listener_23 ⟨(Nat.le_of_ble_eq_true rfl), (Nat.le_of_ble_eq_true rfl)⟩ (fun v13 H locs hpo hM hS => ?_)
    have hpo14 := hpo
    have hq_v13 := tk_rng v13
    exact mz_jret (v := v13) hx hb hr rfl hlocks ⟨(by omega), (by omega), (by omega), (by omega), (by omega), (by omega)⟩ hM hS dX13_listener_26
  · have hc12 : v3.toInt = v6.toInt := (fi_eq rfl rfl).mp c9
    refine lv_aload_n hx hb dX13_listener_13 rfl (lv_at hl 0 rfl) ?_
    refine lv_iconst (v := 1) hx hb dX13_listener_14 (by decide) ?_
    have hk_1 : (1 : Int32).toInt = 1 := by decide
    refine mz_Vj (As := [.int 1]) (rest := []) ⟨hx, hb, hml, hown, hts⟩ hK hM hS (k_X13_inDuel_1 l D cy ld ad am hD _ _ _ _ g13 hg_1) ⟨callB_of 1 hts (wl_in mw_1046) rfl rfl rfl (htl _ mw_5) (htl _ mw_1043) hd_yX13_inDuel ⟨(Nat.le_of_ble_eq_true rfl), (Nat.le_of_ble_eq_true rfl)⟩, htl _ mw_1044, htl _ mw_1045⟩ rfl hl.1 rfl (Nat.le_of_ble_eq_true rfl) dX13_listener_15 ⟨(Nat.le_of_ble_eq_true rfl), (Nat.le_of_ble_eq_true rfl)⟩ (fun v16 H locs hpo hM hS => ?_)
    have hpo17 := hpo
    have hq_v16 := tk_rng v16
    refine lv_goto (tgt := 26) hx hb dX13_listener_18 (by decide) ?_
    exact mz_jret (v := v16) hx hb hr rfl hlocks ⟨(by omega), (by omega), (by omega), (by omega), (by omega), (by omega)⟩ hM hS dX13_listener_26
