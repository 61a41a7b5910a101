set_option maxHeartbeats 4000000 in
set_option maxRecDepth 100000 in
theorem k_X13_inDuel_1 (l : Launch) (D : va_G) (cy : Nat → ClassId) (ld ad : Nat → Nat) (am : Nat) (hD : mz_D ad am) (Fa : Nat → Int32) (Ga : Nat → Int64) (Ra : Nat → Nat → Int32) (Sa : Nat → Nat → Int64) (g0 : Int32) (hg_0 : Ra 3 13 = g0) : Met l yX13_inDuel (wl yX13_inDuel cX13_inDuel 2 (some .int)) ({ frames := 3, cells := 0, slots := 0, locals := 140 }) (mz_p D cy ld ad am Fa Ga Ra Sa [.ref am, .int 1]) (mz_j D cy ad am Fa Ga Ra Sa (fun r => (-1) * g0.toInt + r.toInt = 0)) 0 0 (mz_W ad am) := by
  refine mz_met (y := yX13_inDuel) (cc := cX13_inDuel) (maxL := 2) (ret := (some .int)) (av := [.ref am, .int 1]) _ (by decide) (Nat.le_of_ble_eq_true rfl) ?_
  intro p e s m args below meth c hx hb hr hml hts htl hown hlocks hK H locs hM hS ls hl
  have hown : s.vm.findClass RX13 = some m.cls := hown
  have hl : lv_has ls 2 [(0, .ref am), (1, .int 1)] := hl
  have hq_g0 := tk_rng g0
  refine lv_aload_n hx hb dX13_inDuel_0 rfl (lv_at hl 0 rfl) ?_
  refine mz_getR hx hb htl hown hK hM 3 (Nat.le_of_ble_eq_true rfl) (Nat.le_of_ble_eq_true rfl) (htl _ mw_188) (fun _ h9 => h9) dX13_inDuel_1 ?_
  refine lv_bipush (v := 12) hx hb dX13_inDuel_4 (by decide) ?_
  refine lv_iload_n hx hb dX13_inDuel_6 rfl (lv_at hl 1 rfl) ?_
  refine lv_iadd hx hb dX13_inDuel_7 ?_
  refine fx_ti (v := 13) (by decide) ?_
  refine mz_iald hx hb hK hM 3 (Nat.le_of_ble_eq_true rfl) rfl (nn := 5560) rfl (I := 13) (by decide) (by decide) (by decide) dX13_inDuel_8 (fun v9 e9 => ?_)
  refine fx_ti (v := g0) (e9.symm.trans (show Ra 3 (13 : Int32).toNatClampNeg = _ from hg_0)) ?_
  exact mz_jret (v := g0) hx hb hr rfl hlocks (by omega) hM hS dX13_inDuel_9
set_option maxHeartbeats 4000000 in
set_option maxRecDepth 100000 in
theorem k_X13_inDuel_4 (l : Launch) (D : va_G) (cy : Nat → ClassId) (ld ad : Nat → Nat) (am : Nat) (hD : mz_D ad am) (Fa : Nat → Int32) (Ga : Nat → Int64) (Ra : Nat → Nat → Int32) (Sa : Nat → Nat → Int64) (g0 : Int32) (hg_0 : Ra 3 16 = g0) : Met l yX13_inDuel (wl yX13_inDuel cX13_inDuel 2 (some .int)) ({ frames := 3, cells := 0, slots := 0, locals := 140 }) (mz_p D cy ld ad am Fa Ga Ra Sa [.ref am, .int 4]) (mz_j D cy ad am Fa Ga Ra Sa (fun r => (-1) * g0.toInt + r.toInt = 0)) 0 0 (mz_W ad am) := by
  refine mz_met (y := yX13_inDuel) (cc := cX13_inDuel) (maxL := 2) (ret := (some .int)) (av := [.ref am, .int 4]) _ (by decide) (Nat.le_of_ble_eq_true rfl) ?_
  intro p e s m args below meth c hx hb hr hml hts htl hown hlocks hK H locs hM hS ls hl
  have hown : s.vm.findClass RX13 = some m.cls := hown
  have hl : lv_has ls 2 [(0, .ref am), (1, .int 4)] := hl
  have hq_g0 := tk_rng g0
  refine lv_aload_n hx hb dX13_inDuel_0 rfl (lv_at hl 0 rfl) ?_
  refine mz_getR hx hb htl hown hK hM 3 (Nat.le_of_ble_eq_true rfl) (Nat.le_of_ble_eq_true rfl) (htl _ mw_188) (fun _ h9 => h9) dX13_inDuel_1 ?_
  refine lv_bipush (v := 12) hx hb dX13_inDuel_4 (by decide) ?_
  refine lv_iload_n hx hb dX13_inDuel_6 rfl (lv_at hl 1 rfl) ?_
  refine lv_iadd hx hb dX13_inDuel_7 ?_
  refine fx_ti (v := 16) (by decide) ?_
  refine mz_iald hx hb hK hM 3 (Nat.le_of_ble_eq_true rfl) rfl (nn := 5560) rfl (I := 16) (by decide) (by decide) (by decide) dX13_inDuel_8 (fun v9 e9 => ?_)
  refine fx_ti (v := g0) (e9.symm.trans (show Ra 3 (16 : Int32).toNatClampNeg = _ from hg_0)) ?_
  exact mz_jret (v := g0) hx hb hr rfl hlocks (by omega) hM hS dX13_inDuel_9
theorem dX13_listener_0 : decode cX13_listener 0 = .ok (.aload_n 0, 1) := by decide +kernel
theorem dX13_listener_1 : decode cX13_listener 1 = .ok (.iconst 4, 1) := by decide +kernel
theorem dX13_listener_2 : decode cX13_listener 2 = .ok (.invokevirtual 194, 3) := by decide +kernel
theorem dX13_listener_5 : decode cX13_listener 5 = .ok (.aload_n 0, 1) := by decide +kernel
theorem dX13_listener_6 : decode cX13_listener 6 = .ok (.iconst 0, 1) := by decide +kernel
theorem dX13_listener_7 : decode cX13_listener 7 = .ok (.invokevirtual 194, 3) := by decide +kernel
theorem dX13_listener_10 : decode cX13_listener 10 = .ok (.if_icmp .ne 11, 3) := by decide +kernel
theorem dX13_listener_21 : decode cX13_listener 21 = .ok (.aload_n 0, 1) := by decide +kernel
theorem dX13_listener_22 : decode cX13_listener 22 = .ok (.iconst 0, 1) := by decide +kernel
theorem dX13_listener_23 : decode cX13_listener 23 = .ok (.invokevirtual 194, 3) := by decide +kernel
theorem dX13_listener_26 : decode cX13_listener 26 = .ok (.ireturn, 1) := by decide +kernel
theorem dX13_listener_13 : decode cX13_listener 13 = .ok (.aload_n 0, 1) := by decide +kernel
theorem dX13_listener_14 : decode cX13_listener 14 = .ok (.iconst 1, 1) := by decide +kernel
theorem dX13_listener_15 : decode cX13_listener 15 = .ok (.invokevirtual 194, 3) := by decide +kernel
theorem dX13_listener_18 : decode cX13_listener 18 = .ok (.goto 8, 3) := by decide +kernel
set_option maxHeartbeats 4000000 in
set_option maxRecDepth 100000 in
theorem k_X13_listener (l : Launch) (D : va_G) (cy : Nat → ClassId) (ld ad : Nat → Nat) (am : Nat) (hD : mz_D ad am) (Fa : Nat → Int32) (Ga : Nat → Int64) (Ra : Nat → Nat → Int32) (Sa : Nat → Nat → Int64) (g12 : Int32) (g13 : Int32) (g16 : Int32) (hIF : mz_IF true Fa) (hIG : mz_IG Ga) (hIR : mz_IR [] true Ra) (hg_0 : Ra 3 12 = g12) (hg_1 : Ra 3 13 = g13) (hg_2 : Ra 3 16 = g16) : Met l yX13_listener (wl yX13_listener cX13_listener 1 (some .int)) ({ frames := 4, cells := 0, slots := 0, locals := 210 }) (mz_p D cy ld ad am Fa Ga Ra Sa [.ref am]) (mz_j D cy ad am Fa Ga Ra Sa (fun r => (0 ≤ g12.toInt → 0 ≤ r.toInt) ∧ (-1) ≤ r.toInt ∧ r.toInt ≤ 7)) 0 0 (mz_W ad am) := by
  refine mz_met (y := yX13_listener) (cc := cX13_listener) (maxL := 1) (ret := (some .int)) (av := [.ref am]) _ (by decide) (Nat.le_of_ble_eq_true rfl) ?_
  intro p e s m args below meth c hx hb hr hml hts htl hown hlocks hK H locs hM hS ls hl
  have hown : s.vm.findClass RX13 = some m.cls := hown
  have hl : lv_has ls 1 [(0, .ref am)] := hl
  have hq_g12 := tk_rng g12
  have hq_g13 := tk_rng g13
  have hq_g16 := tk_rng g16
  have hr_g12 : (-1) ≤ g12.toInt ∧ g12.toInt ≤ 7 := by have h9 := hIR.d; unfold dO at h9; rw [hg_0] at h9; omega
  have hti_0 : g12.toInt ≠ -1 → g13.toInt ≠ -1 := by have h9 := hIR.d.2.2.2.2.2; rw [hg_0, hg_1] at h9; exact fun h8 => (h9 h8).1
  have hti_1 : g12.toInt ≠ -1 → g16.toInt ≠ -1 := by have h9 := hIR.d.2.2.2.2.2; rw [hg_0, hg_2] at h9; exact fun h8 => (h9 h8).2.2
  have hr_g13 : (-1) ≤ g13.toInt ∧ g13.toInt ≤ 7 := by have h9 := hIR.d; unfold dO at h9; rw [hg_1] at h9; omega
  have hr_g16 : (-1) ≤ g16.toInt ∧ g16.toInt ≤ 7 := by have h9 := hIR.d; unfold dO at h9; rw [hg_2] at h9; omega
  refine lv_aload_n hx hb dX13_listener_0 rfl (lv_at hl 0 rfl) ?_
  refine lv_iconst (v := 4) hx hb dX13_listener_1 (by decide) ?_
  have hk_4 : (4 : Int32).toInt = 4 := by decide
  refine mz_Vj (As := [.int 4]) (rest := []) ⟨hx, hb, hml, hown, hts⟩ hK hM hS (k_X13_inDuel_4 l D cy ld ad am hD _ _ _ _ g16 hg_2) ⟨callB_of 1 hts (wl_in mw_1046) rfl rfl rfl (htl _ mw_5) (htl _ mw_1043) hd_yX13_inDuel ⟨(Nat.le_of_ble_eq_true rfl), (Nat.le_of_ble_eq_true rfl)⟩, htl _ mw_1044, htl _ mw_1045⟩ rfl hl.1 rfl (Nat.le_of_ble_eq_true rfl) dX13_listener_2 ⟨(Nat.le_of_ble_eq_true rfl), (Nat.le_of_ble_eq_true rfl)⟩ (fun v3 H locs hpo hM hS => ?_)
  have hpo4 := hpo
  have hq_v3 := tk_rng v3
  refine lv_aload_n hx hb dX13_listener_5 rfl (lv_at hl 0 rfl) ?_
  refine lv_iconst (v := 0) hx hb dX13_listener_6 (by decide) ?_
  have hk_0 : (0 : Int32).toInt = 0 := by decide
  refine mz_Vj (As := [.int 0]) (rest := [.int v3]) ⟨hx, hb, hml, hown, hts⟩ hK hM hS (k_X13_inDuel_0 l D cy ld ad am hD _ _ _ _ g12 hg_0) ⟨callB_of 1 hts (wl_in mw_1046) rfl rfl rfl (htl _ mw_5) (htl _ mw_1043) hd_yX13_inDuel ⟨(Nat.le_of_ble_eq_true rfl), (Nat.le_of_ble_eq_true rfl)⟩, htl _ mw_1044, htl _ mw_1045⟩ rfl hl.1 rfl (Nat.le_of_ble_eq_true rfl) dX13_listener_7 ⟨(Nat.le_of_ble_eq_true rfl), (Nat.le_of_ble_eq_true rfl)⟩ (fun v6 H locs hpo hM hS => ?_)
  have hpo7 := hpo
  have hq_v6 := tk_rng v6
  refine lv_icmp_ne (tgt := 21) hx hb dX13_listener_10 (by decide) (fun c9 => ?_) (fun c9 => ?_)
  · have hc9 : ¬ (v3.toInt = v6.toInt) := fun h9 => c9 ((fi_eq rfl rfl).mpr h9)
    refine lv_aload_n hx hb dX13_listener_21 rfl (lv_at hl 0 rfl) ?_
    refine lv_iconst (v := 0) hx hb dX13_listener_22 (by decide) ?_
    have hk_0 : (0 : Int32).toInt = 0 := by decide
    refine mz_Vj (As := [.int 0]) (rest := []) ⟨hx, hb, hml, hown, hts⟩ hK hM hS (k_X13_inDuel_0 l D cy ld ad am hD _ _ _ _ g12 hg_0) ⟨callB_of 1 hts (wl_in mw_1046) rfl rfl rfl (htl _ mw_5) (htl _ mw_1043) hd_yX13_inDuel ⟨(Nat.le_of_ble_eq_true rfl), (Nat.le_of_ble_eq_true rfl)⟩, htl _ mw_1044, htl _ mw_1045⟩ rfl hl.1 rfl (Nat.le_of_ble_eq_true rfl) dX13_listener_23 ⟨(Nat.le_of_ble_eq_true rfl), (Nat.le_of_ble_eq_true rfl)⟩ (fun v10 H locs hpo hM hS => ?_)
    have hpo11 := hpo
    have hq_v10 := tk_rng v10
    exact mz_jret (v := v10) hx hb hr rfl hlocks ⟨(by omega), (by omega), (by omega)⟩ hM hS dX13_listener_26
  · have hc9 : v3.toInt = v6.toInt := (fi_eq rfl rfl).mp c9
    refine lv_aload_n hx hb dX13_listener_13 rfl (lv_at hl 0 rfl) ?_
    refine lv_iconst (v := 1) hx hb dX13_listener_14 (by decide) ?_
    have hk_1 : (1 : Int32).toInt = 1 := by decide
    refine mz_Vj (As := [.int 1]) (rest := []) ⟨hx, hb, hml, hown, hts⟩ hK hM hS (k_X13_inDuel_1 l D cy ld ad am hD _ _ _ _ g13 hg_1) ⟨callB_of 1 hts (wl_in mw_1046) rfl rfl rfl (htl _ mw_5) (htl _ mw_1043) hd_yX13_inDuel ⟨(Nat.le_of_ble_eq_true rfl), (Nat.le_of_ble_eq_true rfl)⟩, htl _ mw_1044, htl _ mw_1045⟩ rfl hl.1 rfl (Nat.le_of_ble_eq_true rfl) dX13_listener_15 ⟨(Nat.le_of_ble_eq_true rfl), (Nat.le_of_ble_eq_true rfl)⟩ (fun v13 H locs hpo hM hS => ?_)
    have hpo14 := hpo
    have hq_v13 := tk_rng v13
    refine lv_goto (tgt := 26) hx hb dX13_listener_18 (by decide) ?_
    exact mz_jret (v := v13) hx hb hr rfl hlocks ⟨(by omega), (by omega), (by omega)⟩ hM hS dX13_listener_26
set_option maxHeartbeats 4000000 in
set_option maxRecDepth 100000 in
theorem k_X13_inDuel_3 (l : Launch) (D : va_G) (cy : Nat → ClassId) (ld ad : Nat → Nat) (am : Nat) (hD : mz_D ad am) (Fa : Nat → Int32) (Ga : Nat → Int64) (Ra : Nat → Nat → Int32) (Sa : Nat → Nat → Int64) (g0 : Int32) (hg_0 : Ra 3 15 = g0) : Met l yX13_inDuel (wl yX13_inDuel cX13_inDuel 2 (some .int)) ({ frames := 3, cells := 0, slots := 0, locals := 140 }) (mz_p D cy ld ad am Fa Ga Ra Sa [.ref am, .int 3]) (mz_j D cy ad am Fa Ga Ra Sa (fun r => (-1) * g0.toInt + r.toInt = 0)) 0 0 (mz_W ad am) := by
  refine mz_met (y := yX13_inDuel) (cc := cX13_inDuel) (maxL := 2) (ret := (some .int)) (av := [.ref am, .int 3]) _ (by decide) (Nat.le_of_ble_eq_true rfl) ?_
  intro p e s m args below meth c hx hb hr hml hts htl hown hlocks hK H locs hM hS ls hl
  have hown : s.vm.findClass RX13 = some m.cls := hown
  have hl : lv_has ls 2 [(0, .ref am), (1, .int 3)] := hl
  have hq_g0 := tk_rng g0
  refine lv_aload_n hx hb dX13_inDuel_0 rfl (lv_at hl 0 rfl) ?_
  refine mz_getR hx hb htl hown hK hM 3 (Nat.le_of_ble_eq_true rfl) (Nat.le_of_ble_eq_true rfl) (htl _ mw_188) (fun _ h9 => h9) dX13_inDuel_1 ?_
  refine lv_bipush (v := 12) hx hb dX13_inDuel_4 (by decide) ?_
  refine lv_iload_n hx hb dX13_inDuel_6 rfl (lv_at hl 1 rfl) ?_
  refine lv_iadd hx hb dX13_inDuel_7 ?_
  refine fx_ti (v := 15) (by decide) ?_
  refine mz_iald hx hb hK hM 3 (Nat.le_of_ble_eq_true rfl) rfl (nn := 5560) rfl (I := 15) (by decide) (by decide) (by decide) dX13_inDuel_8 (fun v9 e9 => ?_)
  refine fx_ti (v := g0) (e9.symm.trans (show Ra 3 (15 : Int32).toNatClampNeg = _ from hg_0)) ?_
  exact mz_jret (v := g0) hx hb hr rfl hlocks (by omega) hM hS dX13_inDuel_9
set_option maxHeartbeats 4000000 in
set_option maxRecDepth 100000 in
theorem k_X13_inDuel_5 (l : Launch) (D : va_G) (cy : Nat → ClassId) (ld ad : Nat → Nat) (am : Nat) (hD : mz_D ad am) (Fa : Nat → Int32) (Ga : Nat → Int64) (Ra : Nat → Nat → Int32) (Sa : Nat → Nat → Int64) (g0 : Int32) (hg_0 : Ra 3 17 = g0) : Met l yX13_inDuel (wl yX13_inDuel cX13_inDuel 2 (some .int)) ({ frames := 3, cells := 0, slots := 0, locals := 140 }) (mz_p D cy ld ad am Fa Ga Ra Sa [.ref am, .int 5]) (mz_j D cy ad am Fa Ga Ra Sa (fun r => (-1) * g0.toInt + r.toInt = 0)) 0 0 (mz_W ad am) := by
  refine mz_met (y := yX13_inDuel) (cc := cX13_inDuel) (maxL := 2) (ret := (some .int)) (av := [.ref am, .int 5]) _ (by decide) (Nat.le_of_ble_eq_true rfl) ?_
  intro p e s m args below meth c hx hb hr hml hts htl hown hlocks hK H locs hM hS ls hl
  have hown : s.vm.findClass RX13 = some m.cls := hown
  have hl : lv_has ls 2 [(0, .ref am), (1, .int 5)] := hl
  have hq_g0 := tk_rng g0
  refine lv_aload_n hx hb dX13_inDuel_0 rfl (lv_at hl 0 rfl) ?_
  refine mz_getR hx hb htl hown hK hM 3 (Nat.le_of_ble_eq_true rfl) (Nat.le_of_ble_eq_true rfl) (htl _ mw_188) (fun _ h9 => h9) dX13_inDuel_1 ?_
  refine lv_bipush (v := 12) hx hb dX13_inDuel_4 (by decide) ?_
  refine lv_iload_n hx hb dX13_inDuel_6 rfl (lv_at hl 1 rfl) ?_
  refine lv_iadd hx hb dX13_inDuel_7 ?_
  refine fx_ti (v := 17) (by decide) ?_
  refine mz_iald hx hb hK hM 3 (Nat.le_of_ble_eq_true rfl) rfl (nn := 5560) rfl (I := 17) (by decide) (by decide) (by decide) dX13_inDuel_8 (fun v9 e9 => ?_)
  refine fx_ti (v := g0) (e9.symm.trans (show Ra 3 (17 : Int32).toNatClampNeg = _ from hg_0)) ?_
  exact mz_jret (v := g0) hx hb hr rfl hlocks (by omega) hM hS dX13_inDuel_9
set_option maxHeartbeats 4000000 in
set_option maxRecDepth 100000 in
theorem k_X13_ofSinger_0 (l : Launch) (D : va_G) (cy : Nat → ClassId) (ld ad : Nat → Nat) (am : Nat) (hD : mz_D ad am) (Fa : Nat → Int32) (Ga : Nat → Int64) (Ra : Nat → Nat → Int32) (Sa : Nat → Nat → Int64) (p1 : Int32) (hIF : mz_IF true Fa) (hIG : mz_IG Ga) (hIR : mz_IR [] true Ra) (hp_0 : (-1) ≤ p1.toInt) (hp_1 : p1.toInt ≤ 7) : Met l yX13_ofSinger (wl yX13_ofSinger cX13_ofSinger 3 (some .int)) ({ frames := 3, cells := 0, slots := 0, locals := 140 }) (mz_p D cy ld ad am Fa Ga Ra Sa [.ref am, .int p1, .int 0]) (mz_j D cy ad am Fa Ga Ra Sa (fun r => True)) 0 0 (mz_W ad am) := by
  refine mz_met (y := yX13_ofSinger) (cc := cX13_ofSinger) (maxL := 3) (ret := (some .int)) (av := [.ref am, .int p1, .int 0]) _ (by decide) (Nat.le_of_ble_eq_true rfl) ?_
  intro p e s m args below meth c hx hb hr hml hts htl hown hlocks hK H locs hM hS ls hl
  have hown : s.vm.findClass RX13 = some m.cls := hown
  have hl : lv_has ls 3 [(0, .ref am), (1, .int p1), (2, .int 0)] := hl
  have hr_p1 := tk_rng p1
  refine lv_aload_n hx hb dX13_ofSinger_0 rfl (lv_at hl 0 rfl) ?_
  refine mz_getR hx hb htl hown hK hM 3 (Nat.le_of_ble_eq_true rfl) (Nat.le_of_ble_eq_true rfl) (htl _ mw_188) (fun _ h9 => h9) dX13_ofSinger_1 ?_
  refine lv_bipush (v := 18) hx hb dX13_ofSinger_4 (by decide) ?_
  refine lv_iconst (v := 5) hx hb dX13_ofSinger_6 (by decide) ?_
  refine lv_iload_n hx hb dX13_ofSinger_7 rfl (lv_at hl 1 rfl) ?_
  refine lv_imul hx hb dX13_ofSinger_8 ?_
  refine tk_mul (show (5 : Int32).toInt = 5 by decide) rfl (by omega) (by omega) (fun v1 h_v1 => ?_)
  refine lv_iadd hx hb dX13_ofSinger_9 ?_
  refine tk_add (show (18 : Int32).toInt = 18 by decide) rfl (by omega) (by omega) (fun v2 h_v2 => ?_)
  refine lv_iload_n hx hb dX13_ofSinger_10 rfl (lv_at hl 2 rfl) ?_
  refine lv_iadd hx hb dX13_ofSinger_11 ?_
  refine tk_add rfl (show (0 : Int32).toInt = 0 by decide) (by omega) (by omega) (fun v3 h_v3 => ?_)
  refine mz_iald hx hb hK hM 3 (Nat.le_of_ble_eq_true rfl) rfl (nn := 5560) rfl rfl (by omega) (by omega) dX13_ofSinger_12 (fun v4 e_v4 => ?_)
  have hq_v4 := tk_rng v4
  exact mz_jret (v := v4) hx hb hr rfl hlocks trivial hM hS dX13_ofSinger_13
set_option maxHeartbeats 4000000 in
set_option maxRecDepth 100000 in
theorem k_X13_ofSinger_1 (l : Launch) (D : va_G) (cy : Nat → ClassId) (ld ad : Nat → Nat) (am : Nat) (hD : mz_D ad am) (Fa : Nat → Int32) (Ga : Nat → Int64) (Ra : Nat → Nat → Int32) (Sa : Nat → Nat → Int64) (p1 : Int32) (hIF : mz_IF true Fa) (hIG : mz_IG Ga) (hIR : mz_IR [] true Ra) (hp_0 : (-1) ≤ p1.toInt) (hp_1 : p1.toInt ≤ 7) : Met l yX13_ofSinger (wl yX13_ofSinger cX13_ofSinger 3 (some .int)) ({ frames := 3, cells := 0, slots := 0, locals := 140 }) (mz_p D cy ld ad am Fa Ga Ra Sa [.ref am, .int p1, .int 1]) (mz_j D cy ad am Fa Ga Ra Sa (fun r => True)) 0 0 (mz_W ad am) := by
  refine mz_met (y := yX13_ofSinger) (cc := cX13_ofSinger) (maxL := 3) (ret := (some .int)) (av := [.ref am, .int p1, .int 1]) _ (by decide) (Nat.le_of_ble_eq_true rfl) ?_
  intro p e s m args below meth c hx hb hr hml hts htl hown hlocks hK H locs hM hS ls hl
  have hown : s.vm.findClass RX13 = some m.cls := hown
  have hl : lv_has ls 3 [(0, .ref am), (1, .int p1), (2, .int 1)] := hl
  have hr_p1 := tk_rng p1
  refine lv_aload_n hx hb dX13_ofSinger_0 rfl (lv_at hl 0 rfl) ?_
  refine mz_getR hx hb htl hown hK hM 3 (Nat.le_of_ble_eq_true rfl) (Nat.le_of_ble_eq_true rfl) (htl _ mw_188) (fun _ h9 => h9) dX13_ofSinger_1 ?_
  refine lv_bipush (v := 18) hx hb dX13_ofSinger_4 (by decide) ?_
  refine lv_iconst (v := 5) hx hb dX13_ofSinger_6 (by decide) ?_
  refine lv_iload_n hx hb dX13_ofSinger_7 rfl (lv_at hl 1 rfl) ?_
  refine lv_imul hx hb dX13_ofSinger_8 ?_
  refine tk_mul (show (5 : Int32).toInt = 5 by decide) rfl (by omega) (by omega) (fun v1 h_v1 => ?_)
  refine lv_iadd hx hb dX13_ofSinger_9 ?_
  refine tk_add (show (18 : Int32).toInt = 18 by decide) rfl (by omega) (by omega) (fun v2 h_v2 => ?_)
  refine lv_iload_n hx hb dX13_ofSinger_10 rfl (lv_at hl 2 rfl) ?_
  refine lv_iadd hx hb dX13_ofSinger_11 ?_
  refine tk_add rfl (show (1 : Int32).toInt = 1 by decide) (by omega) (by omega) (fun v3 h_v3 => ?_)
  refine mz_iald hx hb hK hM 3 (Nat.le_of_ble_eq_true rfl) rfl (nn := 5560) rfl rfl (by omega) (by omega) dX13_ofSinger_12 (fun v4 e_v4 => ?_)
  have hq_v4 := tk_rng v4
  exact mz_jret (v := v4) hx hb hr rfl hlocks trivial hM hS dX13_ofSinger_13
theorem hd_yX13_listener : yX13_listener.cls ≠ "java/lang/invoke/MethodHandle" ∧ yX13_listener.cls ≠ "java/lang/invoke/VarHandle" ∧ (parseMethodDescriptor yX13_listener.desc).map (fun d => d.parameters.length) = some 0 := by decide +kernel
theorem hd_yX13_setSung : yX13_setSung.cls ≠ "java/lang/invoke/MethodHandle" ∧ yX13_setSung.cls ≠ "java/lang/invoke/VarHandle" ∧ (parseMethodDescriptor yX13_setSung.desc).map (fun d => d.parameters.length) = some 6 := by decide +kernel
theorem dX13_layVerse_0 : decode cX13_layVerse 0 = .ok (.aload_n 0, 1) := by decide +kernel
theorem dX13_layVerse_1 : decode cX13_layVerse 1 = .ok (.iconst 4, 1) := by decide +kernel
theorem dX13_layVerse_2 : decode cX13_layVerse 2 = .ok (.invokevirtual 194, 3) := by decide +kernel
theorem dX13_layVerse_5 : decode cX13_layVerse 5 = .ok (.istore_n 2, 1) := by decide +kernel
theorem dX13_layVerse_6 : decode cX13_layVerse 6 = .ok (.aload_n 0, 1) := by decide +kernel
theorem dX13_layVerse_7 : decode cX13_layVerse 7 = .ok (.invokevirtual 431, 3) := by decide +kernel
theorem dX13_layVerse_10 : decode cX13_layVerse 10 = .ok (.istore_n 3, 1) := by decide +kernel
theorem dX13_layVerse_11 : decode cX13_layVerse 11 = .ok (.aload_n 0, 1) := by decide +kernel
theorem dX13_layVerse_12 : decode cX13_layVerse 12 = .ok (.iload_n 1, 1) := by decide +kernel
theorem dX13_layVerse_13 : decode cX13_layVerse 13 = .ok (.aload_n 0, 1) := by decide +kernel
theorem dX13_layVerse_14 : decode cX13_layVerse 14 = .ok (.iload_n 2, 1) := by decide +kernel
theorem dX13_layVerse_15 : decode cX13_layVerse 15 = .ok (.iconst 1, 1) := by decide +kernel
theorem dX13_layVerse_16 : decode cX13_layVerse 16 = .ok (.invokevirtual 207, 3) := by decide +kernel
theorem dX13_layVerse_19 : decode cX13_layVerse 19 = .ok (.aload_n 0, 1) := by decide +kernel
theorem dX13_layVerse_20 : decode cX13_layVerse 20 = .ok (.getfield 13, 3) := by decide +kernel
theorem dX13_layVerse_23 : decode cX13_layVerse 23 = .ok (.bipush 58, 2) := by decide +kernel
theorem dX13_layVerse_25 : decode cX13_layVerse 25 = .ok (.iconst 2, 1) := by decide +kernel
theorem dX13_layVerse_26 : decode cX13_layVerse 26 = .ok (.iload_n 1, 1) := by decide +kernel
theorem dX13_layVerse_27 : decode cX13_layVerse 27 = .ok (.imul, 1) := by decide +kernel
theorem dX13_layVerse_28 : decode cX13_layVerse 28 = .ok (.iadd, 1) := by decide +kernel
theorem dX13_layVerse_29 : decode cX13_layVerse 29 = .ok (.iconst 1, 1) := by decide +kernel
theorem dX13_layVerse_30 : decode cX13_layVerse 30 = .ok (.iadd, 1) := by decide +kernel
theorem dX13_layVerse_31 : decode cX13_layVerse 31 = .ok (.iaload, 1) := by decide +kernel
theorem dX13_layVerse_32 : decode cX13_layVerse 32 = .ok (.aload_n 0, 1) := by decide +kernel
theorem dX13_layVerse_33 : decode cX13_layVerse 33 = .ok (.iconst 5, 1) := by decide +kernel
theorem dX13_layVerse_34 : decode cX13_layVerse 34 = .ok (.invokevirtual 194, 3) := by decide +kernel
theorem dX13_layVerse_45 : decode cX13_layVerse 45 = .ok (.aload_n 0, 1) := by decide +kernel
theorem dX13_layVerse_46 : decode cX13_layVerse 46 = .ok (.iconst 3, 1) := by decide +kernel
theorem dX13_layVerse_47 : decode cX13_layVerse 47 = .ok (.invokevirtual 194, 3) := by decide +kernel
theorem dX13_layVerse_50 : decode cX13_layVerse 50 = .ok (.aload_n 0, 1) := by decide +kernel
theorem dX13_layVerse_51 : decode cX13_layVerse 51 = .ok (.iload_n 3, 1) := by decide +kernel
theorem dX13_layVerse_52 : decode cX13_layVerse 52 = .ok (.iconst 0, 1) := by decide +kernel
theorem dX13_layVerse_53 : decode cX13_layVerse 53 = .ok (.invokevirtual 207, 3) := by decide +kernel
theorem dX13_layVerse_56 : decode cX13_layVerse 56 = .ok (.aload_n 0, 1) := by decide +kernel
theorem dX13_layVerse_57 : decode cX13_layVerse 57 = .ok (.iload_n 3, 1) := by decide +kernel
theorem dX13_layVerse_58 : decode cX13_layVerse 58 = .ok (.iconst 1, 1) := by decide +kernel
theorem dX13_layVerse_59 : decode cX13_layVerse 59 = .ok (.invokevirtual 207, 3) := by decide +kernel
theorem dX13_layVerse_62 : decode cX13_layVerse 62 = .ok (.invokevirtual 425, 3) := by decide +kernel
theorem dX13_layVerse_65 : decode cX13_layVerse 65 = .ok (.return_, 1) := by decide +kernel
theorem dX13_layVerse_37 : decode cX13_layVerse 37 = .ok (.if_icmp .ne 7, 3) := by decide +kernel
theorem dX13_layVerse_44 : decode cX13_layVerse 44 = .ok (.iconst 0, 1) := by decide +kernel
theorem dX13_layVerse_40 : decode cX13_layVerse 40 = .ok (.iconst 1, 1) := by decide +kernel
theorem dX13_layVerse_41 : decode cX13_layVerse 41 = .ok (.goto 4, 3) := by decide +kernel
set_option maxHeartbeats 4000000 in
set_option maxRecDepth 100000 in
theorem k_X13_layVerse (l : Launch) (D : va_G) (cy : Nat → ClassId) (ld ad : Nat → Nat) (am : Nat) (hD : mz_D ad am) (Fa : Nat → Int32) (Ga : Nat → Int64) (Ra : Nat → Nat → Int32) (Sa : Nat → Nat → Int64) (p1 : Int32) (hIF : mz_IF true Fa) (hIG : mz_IG Ga) (hIR : mz_IR [] true Ra) (hp_0 : 0 ≤ p1.toInt) (hp_1 : p1.toInt ≤ 9) : Met l yX13_layVerse (wl yX13_layVerse cX13_layVerse 4 none) ({ frames := 5, cells := 0, slots := 0, locals := 280 }) (mz_p D cy ld ad am Fa Ga Ra Sa [.ref am, .int p1]) (mz_w D cy ad am (fun F G R S => mz_IF true F ∧ mz_IG G ∧ mz_IR [] true R ∧ (∀ k : Nat, k ∉ ([] : List Nat) → F k = Fa k) ∧ (∀ k : Nat, k ∉ ([] : List Nat) → R k = Ra k) ∧ (∀ k : Nat, k ∉ ([] : List Nat) → G k = Ga k))) 0 0 (mz_W ad am) := by
  refine mz_met (y := yX13_layVerse) (cc := cX13_layVerse) (maxL := 4) (ret := none) (av := [.ref am, .int p1]) _ (by decide) (Nat.le_of_ble_eq_true rfl) ?_
  intro p e s m args below meth c hx hb hr hml hts htl hown hlocks hK H locs hM hS ls hl
  have hown : s.vm.findClass RX13 = some m.cls := hown
  have hl : lv_has ls 4 [(0, .ref am), (1, .int p1)] := hl
  have hr_p1 := tk_rng p1
  refine lv_aload_n hx hb dX13_layVerse_0 rfl (lv_at hl 0 rfl) ?_
  refine lv_iconst (v := 4) hx hb dX13_layVerse_1 (by decide) ?_
  obtain ⟨v2, hf1⟩ : ∃ z : Int32, Ra 3 16 = z := ⟨_, rfl⟩
  have hq_v2 := tk_rng v2
  have hr_v2 : (-1) ≤ v2.toInt ∧ v2.toInt ≤ 7 := by have h9 := hIR.d; unfold dO at h9; rw [hf1] at h9; omega
  have hk_4 : (4 : Int32).toInt = 4 := by decide
  refine mz_Vj (As := [.int 4]) (rest := []) ⟨hx, hb, hml, hown, hts⟩ hK hM hS (k_X13_inDuel_4 l D cy ld ad am hD _ _ _ _ v2 hf1) ⟨callB_of 1 hts (wl_in mw_1046) rfl rfl rfl (htl _ mw_5) (htl _ mw_1043) hd_yX13_inDuel ⟨(Nat.le_of_ble_eq_true rfl), (Nat.le_of_ble_eq_true rfl)⟩, htl _ mw_1044, htl _ mw_1045⟩ rfl hl.1 rfl (Nat.le_of_ble_eq_true rfl) dX13_layVerse_2 ⟨(Nat.le_of_ble_eq_true rfl), (Nat.le_of_ble_eq_true rfl)⟩ (fun v3 H locs hpo hM hS => ?_)
  have hpo4 := hpo
  have hq_v3 := tk_rng v3
  refine lv_istore_n (lv' := [(2, .int v3), (0, .ref am), (1, .int p1)]) hx hb dX13_layVerse_5 rfl hl (by decide) rfl (fun ls hl => ?_)
  refine lv_aload_n hx hb dX13_layVerse_6 rfl (lv_at hl 1 rfl) ?_
  obtain ⟨v7, hf6⟩ : ∃ z : Int32, Ra 3 12 = z := ⟨_, rfl⟩
  have hq_v7 := tk_rng v7
  have hr_v7 : (-1) ≤ v7.toInt ∧ v7.toInt ≤ 7 := by have h9 := hIR.d; unfold dO at h9; rw [hf6] at h9; omega
  have hti_7 : v7.toInt ≠ -1 → v2.toInt ≠ -1 := by have h9 := hIR.d.2.2.2.2.2; rw [hf6, hf1] at h9; exact fun h8 => (h9 h8).2.2
  obtain ⟨v10, hf9⟩ : ∃ z : Int32, Ra 3 13 = z := ⟨_, rfl⟩
  have hq_v10 := tk_rng v10
  have hr_v10 : (-1) ≤ v10.toInt ∧ v10.toInt ≤ 7 := by have h9 := hIR.d; unfold dO at h9; rw [hf9] at h9; omega
  have hti_10 : v7.toInt ≠ -1 → v10.toInt ≠ -1 := by have h9 := hIR.d.2.2.2.2.2; rw [hf6, hf9] at h9; exact fun h8 => (h9 h8).1
  refine mz_Vj (As := []) (rest := []) ⟨hx, hb, hml, hown, hts⟩ hK hM hS (k_X13_listener l D cy ld ad am hD _ _ _ _ v7 v10 v2 hIF hIG hIR hf6 hf9 hf1) ⟨callB_of 0 hts (wl_in mw_1095) rfl rfl rfl (htl _ mw_5) (htl _ mw_1092) hd_yX13_listener ⟨(Nat.le_of_ble_eq_true rfl), (Nat.le_of_ble_eq_true rfl)⟩, htl _ mw_1093, htl _ mw_1094⟩ rfl hl.1 rfl (Nat.le_of_ble_eq_true rfl) dX13_layVerse_7 ⟨(Nat.le_of_ble_eq_true rfl), (Nat.le_of_ble_eq_true rfl)⟩ (fun v12 H locs hpo hM hS => ?_)
  obtain ⟨hpo13, hpo14, hpo15⟩ := hpo
  have hq_v12 := tk_rng v12
  refine lv_istore_n (lv' := [(3, .int v12), (2, .int v3), (0, .ref am), (1, .int p1)]) hx hb dX13_layVerse_10 rfl hl (by decide) rfl (fun ls hl => ?_)
  refine lv_aload_n hx hb dX13_layVerse_11 rfl (lv_at hl 2 rfl) ?_
  refine lv_iload_n hx hb dX13_layVerse_12 rfl (lv_at hl 3 rfl) ?_
  refine lv_aload_n hx hb dX13_layVerse_13 rfl (lv_at hl 2 rfl) ?_
  refine lv_iload_n hx hb dX13_layVerse_14 rfl (lv_at hl 1 rfl) ?_
  refine lv_iconst (v := 1) hx hb dX13_layVerse_15 (by decide) ?_
  have hk_1 : (1 : Int32).toInt = 1 := by decide
  refine mz_Vj (As := [.int v3, .int 1]) (rest := [.int p1, .ref am]) ⟨hx, hb, hml, hown, hts⟩ hK hM hS (k_X13_ofSinger_1 l D cy ld ad am hD _ _ _ _ v3 hIF hIG hIR (by omega) (by omega)) ⟨callB_of 2 hts (wl_in mw_324) rfl rfl rfl (htl _ mw_5) (htl _ mw_321) hd_yX13_ofSinger ⟨(Nat.le_of_ble_eq_true rfl), (Nat.le_of_ble_eq_true rfl)⟩, htl _ mw_322, htl _ mw_323⟩ rfl hl.1 rfl (Nat.le_of_ble_eq_true rfl) dX13_layVerse_16 ⟨(Nat.le_of_ble_eq_true rfl), (Nat.le_of_ble_eq_true rfl)⟩ (fun v17 H locs hpo hM hS => ?_)
  have hq_v17 := tk_rng v17
  refine lv_aload_n hx hb dX13_layVerse_19 rfl (lv_at hl 2 rfl) ?_
  refine mz_getR hx hb htl hown hK hM 3 (Nat.le_of_ble_eq_true rfl) (Nat.le_of_ble_eq_true rfl) (htl _ mw_188) (fun _ h9 => h9) dX13_layVerse_20 ?_
  refine lv_bipush (v := 58) hx hb dX13_layVerse_23 (by decide) ?_
  refine lv_iconst (v := 2) hx hb dX13_layVerse_25 (by decide) ?_
  refine lv_iload_n hx hb dX13_layVerse_26 rfl (lv_at hl 3 rfl) ?_
  refine lv_imul hx hb dX13_layVerse_27 ?_
  refine tk_mul (show (2 : Int32).toInt = 2 by decide) rfl (by omega) (by omega) (fun v19 h_v19 => ?_)
  refine lv_iadd hx hb dX13_layVerse_28 ?_
  refine tk_add (show (58 : Int32).toInt = 58 by decide) rfl (by omega) (by omega) (fun v20 h_v20 => ?_)
  refine lv_iconst (v := 1) hx hb dX13_layVerse_29 (by decide) ?_
  refine lv_iadd hx hb dX13_layVerse_30 ?_
  refine tk_add rfl (show (1 : Int32).toInt = 1 by decide) (by omega) (by omega) (fun v21 h_v21 => ?_)
  refine mz_iald hx hb hK hM 3 (Nat.le_of_ble_eq_true rfl) rfl (nn := 5560) rfl rfl (by omega) (by omega) dX13_layVerse_31 (fun v22 e_v22 => ?_)
  have hq_v22 := tk_rng v22
  refine lv_aload_n hx hb dX13_layVerse_32 rfl (lv_at hl 2 rfl) ?_
  refine lv_iconst (v := 5) hx hb dX13_layVerse_33 (by decide) ?_
  obtain ⟨v24, hf23⟩ : ∃ z : Int32, Ra 3 17 = z := ⟨_, rfl⟩
  have hq_v24 := tk_rng v24
  have hk_5 : (5 : Int32).toInt = 5 := by decide
  refine mz_Vj (As := [.int 5]) (rest := [.int v22, .int v17, .int p1, .ref am]) ⟨hx, hb, hml, hown, hts⟩ hK hM hS (k_X13_inDuel_5 l D cy ld ad am hD _ _ _ _ v24 hf23) ⟨callB_of 1 hts (wl_in mw_1046) rfl rfl rfl (htl _ mw_5) (htl _ mw_1043) hd_yX13_inDuel ⟨(Nat.le_of_ble_eq_true rfl), (Nat.le_of_ble_eq_true rfl)⟩, htl _ mw_1044, htl _ mw_1045⟩ rfl hl.1 rfl (Nat.le_of_ble_eq_true rfl) dX13_layVerse_34 ⟨(Nat.le_of_ble_eq_true rfl), (Nat.le_of_ble_eq_true rfl)⟩ (fun v25 H locs hpo hM hS => ?_)
  have hpo26 := hpo
  have hq_v25 := tk_rng v25
  have hj31 : ∀ (v30 : Int32), (0 ≤ v30.toInt) → (v30.toInt ≤ 1) → ∀ ls : Array Slot, lv_has ls 4 [(3, .int v12), (0, .ref am)] → W p l e ({ frames := 5, cells := 0, slots := 0, locals := 280 }) s m args below meth c H locs 0 0 (MQ below (mz_w D cy ad am (fun F G R S => mz_IF true F ∧ mz_IG G ∧ mz_IR [] true R ∧ (∀ k : Nat, k ∉ ([] : List Nat) → F k = Fa k) ∧ (∀ k : Nat, k ∉ ([] : List Nat) → R k = Ra k) ∧ (∀ k : Nat, k ∉ ([] : List Nat) → G k = Ga k))) args s 0 0 (mz_W ad am)) (F0 m 45 ls [.int v30, .int v17, .int p1, .ref am]) := by
    intro v30 hq0_j31 hq1_j31 ls hl
    have hti_31 : v7.toInt ≠ -1 → v10.toInt ≠ -1 := by have h9 := hIR.d.2.2.2.2.2; rw [hf6, hf9] at h9; exact fun h8 => (h9 h8).1
    have hti_32 : v7.toInt ≠ -1 → v2.toInt ≠ -1 := by have h9 := hIR.d.2.2.2.2.2; rw [hf6, hf1] at h9; exact fun h8 => (h9 h8).2.2
    refine lv_aload_n hx hb dX13_layVerse_45 rfl (lv_at hl 1 rfl) ?_
    refine lv_iconst (v := 3) hx hb dX13_layVerse_46 (by decide) ?_
    obtain ⟨v35, hf34⟩ : ∃ z : Int32, Ra 3 15 = z := ⟨_, rfl⟩
    have hq_v35 := tk_rng v35
    have hr_v35 : (-1) ≤ v35.toInt ∧ v35.toInt ≤ 11 := by have h9 := hIR.d; unfold dO at h9; rw [hf34] at h9; omega
    have hti_35 : v7.toInt ≠ -1 → v35.toInt ≠ -1 := by have h9 := hIR.d.2.2.2.2.2; rw [hf6, hf34] at h9; exact fun h8 => (h9 h8).2.1
    have hk_3 : (3 : Int32).toInt = 3 := by decide
    refine mz_Vj (As := [.int 3]) (rest := [.int v30, .int v17, .int p1, .ref am]) ⟨hx, hb, hml, hown, hts⟩ hK hM hS (k_X13_inDuel_3 l D cy ld ad am hD _ _ _ _ v35 hf34) ⟨callB_of 1 hts (wl_in mw_1046) rfl rfl rfl (htl _ mw_5) (htl _ mw_1043) hd_yX13_inDuel ⟨(Nat.le_of_ble_eq_true rfl), (Nat.le_of_ble_eq_true rfl)⟩, htl _ mw_1044, htl _ mw_1045⟩ rfl hl.1 rfl (Nat.le_of_ble_eq_true rfl) dX13_layVerse_47 ⟨(Nat.le_of_ble_eq_true rfl), (Nat.le_of_ble_eq_true rfl)⟩ (fun v37 H locs hpo hM hS => ?_)
    have hpo38 := hpo
    have hq_v37 := tk_rng v37
    refine lv_aload_n hx hb dX13_layVerse_50 rfl (lv_at hl 1 rfl) ?_
    refine lv_iload_n hx hb dX13_layVerse_51 rfl (lv_at hl 0 rfl) ?_
    refine lv_iconst (v := 0) hx hb dX13_layVerse_52 (by decide) ?_
    have hk_0 : (0 : Int32).toInt = 0 := by decide
    refine mz_Vj (As := [.int v12, .int 0]) (rest := [.int v37, .int v30, .int v17, .int p1, .ref am]) ⟨hx, hb, hml, hown, hts⟩ hK hM hS (k_X13_ofSinger_0 l D cy ld ad am hD _ _ _ _ v12 hIF hIG hIR (by omega) (by omega)) ⟨callB_of 2 hts (wl_in mw_324) rfl rfl rfl (htl _ mw_5) (htl _ mw_321) hd_yX13_ofSinger ⟨(Nat.le_of_ble_eq_true rfl), (Nat.le_of_ble_eq_true rfl)⟩, htl _ mw_322, htl _ mw_323⟩ rfl hl.1 rfl (Nat.le_of_ble_eq_true rfl) dX13_layVerse_53 ⟨(Nat.le_of_ble_eq_true rfl), (Nat.le_of_ble_eq_true rfl)⟩ (fun v40 H locs hpo hM hS => ?_)
    have hq_v40 := tk_rng v40
    refine lv_aload_n hx hb dX13_layVerse_56 rfl (lv_at hl 1 rfl) ?_
    refine lv_iload_n hx hb dX13_layVerse_57 rfl (lv_at hl 0 rfl) ?_
    refine lv_iconst (v := 1) hx hb dX13_layVerse_58 (by decide) ?_
    have hk_1 : (1 : Int32).toInt = 1 := by decide
    refine mz_Vj (As := [.int v12, .int 1]) (rest := [.int v40, .int v37, .int v30, .int v17, .int p1, .ref am]) ⟨hx, hb, hml, hown, hts⟩ hK hM hS (k_X13_ofSinger_1 l D cy ld ad am hD _ _ _ _ v12 hIF hIG hIR (by omega) (by omega)) ⟨callB_of 2 hts (wl_in mw_324) rfl rfl rfl (htl _ mw_5) (htl _ mw_321) hd_yX13_ofSinger ⟨(Nat.le_of_ble_eq_true rfl), (Nat.le_of_ble_eq_true rfl)⟩, htl _ mw_322, htl _ mw_323⟩ rfl hl.1 rfl (Nat.le_of_ble_eq_true rfl) dX13_layVerse_59 ⟨(Nat.le_of_ble_eq_true rfl), (Nat.le_of_ble_eq_true rfl)⟩ (fun v42 H locs hpo hM hS => ?_)
    have hq_v42 := tk_rng v42
    refine mz_Vv (As := [.int p1, .int v17, .int v30, .int v37, .int v40, .int v42]) (rest := []) ⟨hx, hb, hml, hown, hts⟩ hK hM hS (k_X13_setSung l D cy ld ad am hD _ _ _ _ p1 v17 v30 v37 v40 v42 hIF hIG hIR (by omega) (by omega)) ⟨callB_of 6 hts (wl_in mw_1099) rfl rfl rfl (htl _ mw_5) (htl _ mw_1096) hd_yX13_setSung ⟨(Nat.le_of_ble_eq_true rfl), (Nat.le_of_ble_eq_true rfl)⟩, htl _ mw_1097, htl _ mw_1098⟩ rfl hl.1 rfl (Nat.le_of_ble_eq_true rfl) dX13_layVerse_62 ⟨(Nat.le_of_ble_eq_true rfl), (Nat.le_of_ble_eq_true rfl)⟩ (fun H locs F G R S hpo hM hS => ?_)
    obtain ⟨hIF, hIG, hIR, hfr9, hrr9, hgr9⟩ := hpo
    have hFF := mz_fr (K := []) (Fa := Fa) hfr9 (fun _ _ => rfl) (by decide)
    have hRR := mz_fr (K := []) (Fa := Ra) hrr9 (fun _ _ => rfl) (by decide)
    have hGG := mz_fr (K := []) (Fa := Ga) hgr9 (fun _ _ => rfl) (by decide)
    have hf1 : R 3 16 = _ := (congrFun (hrr9 3 (by decide)) 16).trans hf1
    have hf6 : R 3 12 = _ := (congrFun (hrr9 3 (by decide)) 12).trans hf6
    have hf9 : R 3 13 = _ := (congrFun (hrr9 3 (by decide)) 13).trans hf9
    have hf23 : R 3 17 = _ := (congrFun (hrr9 3 (by decide)) 17).trans hf23
    have hf34 : R 3 15 = _ := (congrFun (hrr9 3 (by decide)) 15).trans hf34
    exact mz_vret hx hb hr hlocks ⟨hIF, hIG, hIR, hFF, hRR, hGG⟩ hM hS dX13_layVerse_65
  refine lv_icmp_ne (tgt := 44) hx hb dX13_layVerse_37 (by decide) (fun c9 => ?_) (fun c9 => ?_)
  · have hc28 : ¬ (v22.toInt = v25.toInt) := fun h9 => c9 ((fi_eq rfl rfl).mpr h9)
    refine lv_iconst (v := 0) hx hb dX13_layVerse_44 (by decide) ?_
    have hk_0 : (0 : Int32).toInt = 0 := by decide
    exact hj31 0 (by omega) (by omega) _ (lv_sub hl [0, 2] rfl)
  · have hc28 : v22.toInt = v25.toInt := (fi_eq rfl rfl).mp c9
    refine lv_iconst (v := 1) hx hb dX13_layVerse_40 (by decide) ?_
    refine lv_goto (tgt := 45) hx hb dX13_layVerse_41 (by decide) ?_
    have hk_1 : (1 : Int32).toInt = 1 := by decide
    exact hj31 1 (by omega) (by omega) _ (lv_sub hl [0, 2] rfl)
theorem dX13_layDuel_0 : decode cX13_layDuel 0 = .ok (.aload_n 0, 1) := by decide +kernel
theorem dX13_layDuel_1 : decode cX13_layDuel 1 = .ok (.getfield 13, 3) := by decide +kernel
theorem dX13_layDuel_4 : decode cX13_layDuel 4 = .ok (.bipush 12, 2) := by decide +kernel
theorem dX13_layDuel_6 : decode cX13_layDuel 6 = .ok (.iload_n 1, 1) := by decide +kernel
theorem dX13_layDuel_7 : decode cX13_layDuel 7 = .ok (.iastore, 1) := by decide +kernel
theorem dX13_layDuel_8 : decode cX13_layDuel 8 = .ok (.aload_n 0, 1) := by decide +kernel
theorem dX13_layDuel_9 : decode cX13_layDuel 9 = .ok (.getfield 13, 3) := by decide +kernel
theorem dX13_layDuel_12 : decode cX13_layDuel 12 = .ok (.bipush 13, 2) := by decide +kernel
theorem dX13_layDuel_14 : decode cX13_layDuel 14 = .ok (.iload_n 2, 1) := by decide +kernel
theorem dX13_layDuel_15 : decode cX13_layDuel 15 = .ok (.iastore, 1) := by decide +kernel
theorem dX13_layDuel_16 : decode cX13_layDuel 16 = .ok (.aload_n 0, 1) := by decide +kernel
theorem dX13_layDuel_17 : decode cX13_layDuel 17 = .ok (.getfield 13, 3) := by decide +kernel
theorem dX13_layDuel_20 : decode cX13_layDuel 20 = .ok (.bipush 14, 2) := by decide +kernel
theorem dX13_layDuel_22 : decode cX13_layDuel 22 = .ok (.iload_n 3, 1) := by decide +kernel
theorem dX13_layDuel_23 : decode cX13_layDuel 23 = .ok (.iastore, 1) := by decide +kernel
theorem dX13_layDuel_24 : decode cX13_layDuel 24 = .ok (.aload_n 0, 1) := by decide +kernel
theorem dX13_layDuel_25 : decode cX13_layDuel 25 = .ok (.getfield 13, 3) := by decide +kernel
theorem dX13_layDuel_28 : decode cX13_layDuel 28 = .ok (.bipush 15, 2) := by decide +kernel
theorem dX13_layDuel_30 : decode cX13_layDuel 30 = .ok (.iconst 0, 1) := by decide +kernel
theorem dX13_layDuel_31 : decode cX13_layDuel 31 = .ok (.iastore, 1) := by decide +kernel
theorem dX13_layDuel_32 : decode cX13_layDuel 32 = .ok (.aload_n 0, 1) := by decide +kernel
theorem dX13_layDuel_33 : decode cX13_layDuel 33 = .ok (.getfield 13, 3) := by decide +kernel
theorem dX13_layDuel_36 : decode cX13_layDuel 36 = .ok (.bipush 16, 2) := by decide +kernel
theorem dX13_layDuel_38 : decode cX13_layDuel 38 = .ok (.iload_n 1, 1) := by decide +kernel
theorem dX13_layDuel_39 : decode cX13_layDuel 39 = .ok (.iastore, 1) := by decide +kernel
theorem dX13_layDuel_40 : decode cX13_layDuel 40 = .ok (.aload_n 0, 1) := by decide +kernel
theorem dX13_layDuel_41 : decode cX13_layDuel 41 = .ok (.getfield 13, 3) := by decide +kernel
theorem dX13_layDuel_44 : decode cX13_layDuel 44 = .ok (.bipush 17, 2) := by decide +kernel
theorem dX13_layDuel_46 : decode cX13_layDuel 46 = .ok (.iconst (-1), 1) := by decide +kernel
theorem dX13_layDuel_47 : decode cX13_layDuel 47 = .ok (.iastore, 1) := by decide +kernel
theorem dX13_layDuel_48 : decode cX13_layDuel 48 = .ok (.return_, 1) := by decide +kernel
set_option maxHeartbeats 4000000 in
set_option maxRecDepth 100000 in
theorem k_X13_layDuel (l : Launch) (D : va_G) (cy : Nat → ClassId) (ld ad : Nat → Nat) (am : Nat) (hD : mz_D ad am) (Fa : Nat → Int32) (Ga : Nat → Int64) (Ra : Nat → Nat → Int32) (Sa : Nat → Nat → Int64) (p1 : Int32) (p2 : Int32) (p3 : Int32) (hIF : mz_IF true Fa) (hIG : mz_IG Ga) (hIR : mz_IR [] false Ra) (hp_0 : 0 ≤ p1.toInt) (hp_1 : p1.toInt ≤ 7) (hp_2 : 0 ≤ p2.toInt) (hp_3 : p2.toInt ≤ 7) (hp_4 : (-1) ≤ p3.toInt) (hp_5 : p3.toInt ≤ 99) : Met l yX13_layDuel (wl yX13_layDuel cX13_layDuel 4 none) ({ frames := 3, cells := 0, slots := 0, locals := 140 }) (mz_p D cy ld ad am Fa Ga Ra Sa [.ref am, .int p1, .int p2, .int p3]) (mz_w D cy ad am (fun F G R S => mz_IF true F ∧ mz_IG G ∧ mz_IR [] true R ∧ (∀ k : Nat, k ∉ ([] : List Nat) → F k = Fa k) ∧ (∀ k : Nat, k ∉ ([3] : List Nat) → R k = Ra k) ∧ (∀ k : Nat, k ∉ ([] : List Nat) → G k = Ga k) ∧ rK2 (Ra 3) (R 3) ∧ R 3 12 = p1 ∧ R 3 13 = p2 ∧ R 3 15 = 0 ∧ R 3 16 = p1)) 0 0 (mz_W ad am) := by
  refine mz_met (y := yX13_layDuel) (cc := cX13_layDuel) (maxL := 4) (ret := none) (av := [.ref am, .int p1, .int p2, .int p3]) _ (by decide) (Nat.le_of_ble_eq_true rfl) ?_
  intro p e s m args below meth c hx hb hr hml hts htl hown hlocks hK H locs hM hS ls hl
  have hown : s.vm.findClass RX13 = some m.cls := hown
  have hl : lv_has ls 4 [(0, .ref am), (1, .int p1), (2, .int p2), (3, .int p3)] := hl
  have hr_p1 := tk_rng p1
  have hr_p2 := tk_rng p2
  have hr_p3 := tk_rng p3
  refine lv_aload_n hx hb dX13_layDuel_0 rfl (lv_at hl 0 rfl) ?_
  refine mz_getR hx hb htl hown hK hM 3 (Nat.le_of_ble_eq_true rfl) (Nat.le_of_ble_eq_true rfl) (htl _ mw_188) (fun _ h9 => h9) dX13_layDuel_1 ?_
  refine lv_bipush (v := 12) hx hb dX13_layDuel_4 (by decide) ?_
  refine lv_iload_n hx hb dX13_layDuel_6 rfl (lv_at hl 1 rfl) ?_
  have hk_12 : (12 : Int32).toInt = 12 := by decide
  refine mz_iast (x := p1) hx hb hK hD hM hS 3 (Nat.le_of_ble_eq_true rfl) rfl (nn := 5560) rfl (I := 12) (by decide) (by decide) (by decide) dX13_layDuel_7 (fun H locs R hM hS hw9 hj9 => ?_)
  have hIR := hIR.put hw9 hj9 (mz_r3 (hIR.at 3) (I := 12) (by decide) (by omega) (by omega) (fun h9 => by first | (cases h9; done) | omega) (by unfold mE; omega))
  have hRR := mz_frp (K := [3]) (Fa := Ra) hj9 (fun _ _ => rfl) (by decide)
  have hrel := rK2.put (I := 12) (rK2.refl rfl) hw9 (by decide) (by omega) (by omega) (by omega)
  have hf2 : R 3 12 = p1 := (congrFun hw9 12).trans pk_us
  refine lv_aload_n hx hb dX13_layDuel_8 rfl (lv_at hl 0 rfl) ?_
  refine mz_getR hx hb htl hown hK hM 3 (Nat.le_of_ble_eq_true rfl) (Nat.le_of_ble_eq_true rfl) (htl _ mw_188) (fun _ h9 => h9) dX13_layDuel_9 ?_
  refine lv_bipush (v := 13) hx hb dX13_layDuel_12 (by decide) ?_
  refine lv_iload_n hx hb dX13_layDuel_14 rfl (lv_at hl 2 rfl) ?_
  have hk_13 : (13 : Int32).toInt = 13 := by decide
  refine mz_iast (x := p2) hx hb hK hD hM hS 3 (Nat.le_of_ble_eq_true rfl) rfl (nn := 5560) rfl (I := 13) (by decide) (by decide) (by decide) dX13_layDuel_15 (fun H locs R hM hS hw9 hj9 => ?_)
  have hIR := hIR.put hw9 hj9 (mz_r3 (hIR.at 3) (I := 13) (by decide) (by omega) (by omega) (fun h9 => by first | (cases h9; done) | omega) (by unfold mE; omega))
  have hRR := mz_frp (K := [3]) (Fa := Ra) hj9 hRR (by decide)
  have hrel := rK2.put (I := 13) hrel hw9 (by decide) (by omega) (by omega) (by omega)
  have hf2 : R 3 12 = _ := (congrFun hw9 12).trans ((pk_un (by decide)).trans hf2)
  have hf4 : R 3 13 = p2 := (congrFun hw9 13).trans pk_us
  refine lv_aload_n hx hb dX13_layDuel_16 rfl (lv_at hl 0 rfl) ?_
  refine mz_getR hx hb htl hown hK hM 3 (Nat.le_of_ble_eq_true rfl) (Nat.le_of_ble_eq_true rfl) (htl _ mw_188) (fun _ h9 => h9) dX13_layDuel_17 ?_
  refine lv_bipush (v := 14) hx hb dX13_layDuel_20 (by decide) ?_
  refine lv_iload_n hx hb dX13_layDuel_22 rfl (lv_at hl 3 rfl) ?_
  have hk_14 : (14 : Int32).toInt = 14 := by decide
  refine mz_iast (x := p3) hx hb hK hD hM hS 3 (Nat.le_of_ble_eq_true rfl) rfl (nn := 5560) rfl (I := 14) (by decide) (by decide) (by decide) dX13_layDuel_23 (fun H locs R hM hS hw9 hj9 => ?_)
  have hIR := hIR.put hw9 hj9 (mz_r3 (hIR.at 3) (I := 14) (by decide) (by omega) (by omega) (fun h9 => by first | (cases h9; done) | omega) (by unfold mE; omega))
  have hRR := mz_frp (K := [3]) (Fa := Ra) hj9 hRR (by decide)
  have hrel := rK2.put (I := 14) hrel hw9 (by decide) (by omega) (by omega) (by omega)
  have hf2 : R 3 12 = _ := (congrFun hw9 12).trans ((pk_un (by decide)).trans hf2)
  have hf4 : R 3 13 = _ := (congrFun hw9 13).trans ((pk_un (by decide)).trans hf4)
  have hf6 : R 3 14 = p3 := (congrFun hw9 14).trans pk_us
  refine lv_aload_n hx hb dX13_layDuel_24 rfl (lv_at hl 0 rfl) ?_
  refine mz_getR hx hb htl hown hK hM 3 (Nat.le_of_ble_eq_true rfl) (Nat.le_of_ble_eq_true rfl) (htl _ mw_188) (fun _ h9 => h9) dX13_layDuel_25 ?_
  refine lv_bipush (v := 15) hx hb dX13_layDuel_28 (by decide) ?_
  refine lv_iconst (v := 0) hx hb dX13_layDuel_30 (by decide) ?_
  have hk_15 : (15 : Int32).toInt = 15 := by decide
  have hk_0 : (0 : Int32).toInt = 0 := by decide
  refine mz_iast (x := 0) hx hb hK hD hM hS 3 (Nat.le_of_ble_eq_true rfl) rfl (nn := 5560) rfl (I := 15) (by decide) (by decide) (by decide) dX13_layDuel_31 (fun H locs R hM hS hw9 hj9 => ?_)
  have hIR := hIR.put hw9 hj9 (mz_r3 (hIR.at 3) (I := 15) (by decide) (by omega) (by omega) (fun h9 => by first | (cases h9; done) | omega) (by unfold mE; omega))
  have hRR := mz_frp (K := [3]) (Fa := Ra) hj9 hRR (by decide)
  have hrel := rK2.put (I := 15) hrel hw9 (by decide) (by omega) (by omega) (by omega)
  have hf2 : R 3 12 = _ := (congrFun hw9 12).trans ((pk_un (by decide)).trans hf2)
  have hf4 : R 3 13 = _ := (congrFun hw9 13).trans ((pk_un (by decide)).trans hf4)
  have hf6 : R 3 14 = _ := (congrFun hw9 14).trans ((pk_un (by decide)).trans hf6)
  have hf8 : R 3 15 = 0 := (congrFun hw9 15).trans pk_us
  refine lv_aload_n hx hb dX13_layDuel_32 rfl (lv_at hl 0 rfl) ?_
  refine mz_getR hx hb htl hown hK hM 3 (Nat.le_of_ble_eq_true rfl) (Nat.le_of_ble_eq_true rfl) (htl _ mw_188) (fun _ h9 => h9) dX13_layDuel_33 ?_
  refine lv_bipush (v := 16) hx hb dX13_layDuel_36 (by decide) ?_
  refine lv_iload_n hx hb dX13_layDuel_38 rfl (lv_at hl 1 rfl) ?_
  have hk_16 : (16 : Int32).toInt = 16 := by decide
  refine mz_iast (x := p1) hx hb hK hD hM hS 3 (Nat.le_of_ble_eq_true rfl) rfl (nn := 5560) rfl (I := 16) (by decide) (by decide) (by decide) dX13_layDuel_39 (fun H locs R hM hS hw9 hj9 => ?_)
  have hIR := hIR.put hw9 hj9 (mz_r3 (hIR.at 3) (I := 16) (by decide) (by omega) (by omega) (fun h9 => by first | (cases h9; done) | omega) (by unfold mE; omega))
  have hRR := mz_frp (K := [3]) (Fa := Ra) hj9 hRR (by decide)
  have hrel := rK2.put (I := 16) hrel hw9 (by decide) (by omega) (by omega) (by omega)
  have hf2 : R 3 12 = _ := (congrFun hw9 12).trans ((pk_un (by decide)).trans hf2)
  have hf4 : R 3 13 = _ := (congrFun hw9 13).trans ((pk_un (by decide)).trans hf4)
  have hf6 : R 3 14 = _ := (congrFun hw9 14).trans ((pk_un (by decide)).trans hf6)
  have hf8 : R 3 15 = _ := (congrFun hw9 15).trans ((pk_un (by decide)).trans hf8)
  have hf10 : R 3 16 = p1 := (congrFun hw9 16).trans pk_us
  refine lv_aload_n hx hb dX13_layDuel_40 rfl (lv_at hl 0 rfl) ?_
  refine mz_getR hx hb htl hown hK hM 3 (Nat.le_of_ble_eq_true rfl) (Nat.le_of_ble_eq_true rfl) (htl _ mw_188) (fun _ h9 => h9) dX13_layDuel_41 ?_
  refine lv_bipush (v := 17) hx hb dX13_layDuel_44 (by decide) ?_
  refine lv_iconst (v := (-1)) hx hb dX13_layDuel_46 (by decide) ?_
  have hk_17 : (17 : Int32).toInt = 17 := by decide
  have hk_m1 : ((-1) : Int32).toInt = (-1) := by decide
  refine mz_iast (x := (-1)) hx hb hK hD hM hS 3 (Nat.le_of_ble_eq_true rfl) rfl (nn := 5560) rfl (I := 17) (by decide) (by decide) (by decide) dX13_layDuel_47 (fun H locs R hM hS hw9 hj9 => ?_)
  have hIR := hIR.put hw9 hj9 (mz_r3 (hIR.at 3) (I := 17) (by decide) (by omega) (by omega) (fun h9 => by first | (cases h9; done) | omega) (by unfold mE; omega))
  have hRR := mz_frp (K := [3]) (Fa := Ra) hj9 hRR (by decide)
  have hrel := rK2.put (I := 17) hrel hw9 (by decide) (by omega) (by omega) (by omega)
  have hf2 : R 3 12 = _ := (congrFun hw9 12).trans ((pk_un (by decide)).trans hf2)
  have hf4 : R 3 13 = _ := (congrFun hw9 13).trans ((pk_un (by decide)).trans hf4)
  have hf6 : R 3 14 = _ := (congrFun hw9 14).trans ((pk_un (by decide)).trans hf6)
  have hf8 : R 3 15 = _ := (congrFun hw9 15).trans ((pk_un (by decide)).trans hf8)
  have hf10 : R 3 16 = _ := (congrFun hw9 16).trans ((pk_un (by decide)).trans hf10)
  have hf12 : R 3 17 = (-1) := (congrFun hw9 17).trans pk_us
  have hk_0 : (0 : Int32).toInt = 0 := by decide
  have hIR := hIR.duel (by unfold dO; rw [hf2, show R 3 (12 + 1) = _ from hf4, show R 3 (12 + 2) = _ from hf6, show R 3 (12 + 3) = _ from hf8, show R 3 (12 + 4) = _ from hf10]; omega)
  exact mz_vret hx hb hr hlocks ⟨hIF, hIG, hIR, (fun _ _ => rfl), hRR, (fun _ _ => rfl), hrel, hf2, hf4, hf8, hf10⟩ hM hS dX13_layDuel_48
set_option maxHeartbeats 4000000 in
set_option maxRecDepth 100000 in
theorem k_X13_ofSinger_3 (l : Launch) (D : va_G) (cy : Nat → ClassId) (ld ad : Nat → Nat) (am : Nat) (hD : mz_D ad am) (Fa : Nat → Int32) (Ga : Nat → Int64) (Ra : Nat → Nat → Int32) (Sa : Nat → Nat → Int64) (p1 : Int32) (hIF : mz_IF true Fa) (hIG : mz_IG Ga) (hIR : mz_IR [] true Ra) (hp_0 : (-1) ≤ p1.toInt) (hp_1 : p1.toInt ≤ 7) : Met l yX13_ofSinger (wl yX13_ofSinger cX13_ofSinger 3 (some .int)) ({ frames := 3, cells := 0, slots := 0, locals := 140 }) (mz_p D cy ld ad am Fa Ga Ra Sa [.ref am, .int p1, .int 3]) (mz_j D cy ad am Fa Ga Ra Sa (fun r => True)) 0 0 (mz_W ad am) := by
  refine mz_met (y := yX13_ofSinger) (cc := cX13_ofSinger) (maxL := 3) (ret := (some .int)) (av := [.ref am, .int p1, .int 3]) _ (by decide) (Nat.le_of_ble_eq_true rfl) ?_
  intro p e s m args below meth c hx hb hr hml hts htl hown hlocks hK H locs hM hS ls hl
  have hown : s.vm.findClass RX13 = some m.cls := hown
  have hl : lv_has ls 3 [(0, .ref am), (1, .int p1), (2, .int 3)] := hl
  have hr_p1 := tk_rng p1
  refine lv_aload_n hx hb dX13_ofSinger_0 rfl (lv_at hl 0 rfl) ?_
  refine mz_getR hx hb htl hown hK hM 3 (Nat.le_of_ble_eq_true rfl) (Nat.le_of_ble_eq_true rfl) (htl _ mw_188) (fun _ h9 => h9) dX13_ofSinger_1 ?_
  refine lv_bipush (v := 18) hx hb dX13_ofSinger_4 (by decide) ?_
  refine lv_iconst (v := 5) hx hb dX13_ofSinger_6 (by decide) ?_
  refine lv_iload_n hx hb dX13_ofSinger_7 rfl (lv_at hl 1 rfl) ?_
  refine lv_imul hx hb dX13_ofSinger_8 ?_
  refine tk_mul (show (5 : Int32).toInt = 5 by decide) rfl (by omega) (by omega) (fun v1 h_v1 => ?_)
  refine lv_iadd hx hb dX13_ofSinger_9 ?_
  refine tk_add (show (18 : Int32).toInt = 18 by decide) rfl (by omega) (by omega) (fun v2 h_v2 => ?_)
  refine lv_iload_n hx hb dX13_ofSinger_10 rfl (lv_at hl 2 rfl) ?_
  refine lv_iadd hx hb dX13_ofSinger_11 ?_
  refine tk_add rfl (show (3 : Int32).toInt = 3 by decide) (by omega) (by omega) (fun v3 h_v3 => ?_)
  refine mz_iald hx hb hK hM 3 (Nat.le_of_ble_eq_true rfl) rfl (nn := 5560) rfl rfl (by omega) (by omega) dX13_ofSinger_12 (fun v4 e_v4 => ?_)
  have hq_v4 := tk_rng v4
  exact mz_jret (v := v4) hx hb hr rfl hlocks trivial hM hS dX13_ofSinger_13
theorem dX13_isUp_0 : decode cX13_isUp 0 = .ok (.aload_n 0, 1) := by decide +kernel
theorem dX13_isUp_1 : decode cX13_isUp 1 = .ok (.iload_n 1, 1) := by decide +kernel
theorem dX13_isUp_2 : decode cX13_isUp 2 = .ok (.iconst 3, 1) := by decide +kernel
theorem dX13_isUp_3 : decode cX13_isUp 3 = .ok (.invokevirtual 207, 3) := by decide +kernel
theorem dX13_isUp_6 : decode cX13_isUp 6 = .ok (.ifCond .ne 16, 3) := by decide +kernel
theorem dX13_isUp_22 : decode cX13_isUp 22 = .ok (.iconst 0, 1) := by decide +kernel
theorem dX13_isUp_23 : decode cX13_isUp 23 = .ok (.ireturn, 1) := by decide +kernel
theorem dX13_isUp_9 : decode cX13_isUp 9 = .ok (.aload_n 0, 1) := by decide +kernel
theorem dX13_isUp_10 : decode cX13_isUp 10 = .ok (.iload_n 1, 1) := by decide +kernel
theorem dX13_isUp_11 : decode cX13_isUp 11 = .ok (.iconst 0, 1) := by decide +kernel
theorem dX13_isUp_12 : decode cX13_isUp 12 = .ok (.invokevirtual 207, 3) := by decide +kernel
theorem dX13_isUp_15 : decode cX13_isUp 15 = .ok (.ifCond .le 7, 3) := by decide +kernel
theorem dX13_isUp_18 : decode cX13_isUp 18 = .ok (.iconst 1, 1) := by decide +kernel
theorem dX13_isUp_19 : decode cX13_isUp 19 = .ok (.goto 4, 3) := by decide +kernel
set_option maxHeartbeats 4000000 in
set_option maxRecDepth 100000 in
theorem k_X13_isUp (l : Launch) (D : va_G) (cy : Nat → ClassId) (ld ad : Nat → Nat) (am : Nat) (hD : mz_D ad am) (Fa : Nat → Int32) (Ga : Nat → Int64) (Ra : Nat → Nat → Int32) (Sa : Nat → Nat → Int64) (p1 : Int32) (hIF : mz_IF true Fa) (hIG : mz_IG Ga) (hIR : mz_IR [] true Ra) (hp_0 : 0 ≤ p1.toInt) (hp_1 : p1.toInt ≤ 7) : Met l yX13_isUp (wl yX13_isUp cX13_isUp 2 (some .boolean)) ({ frames := 4, cells := 0, slots := 0, locals := 210 }) (mz_p D cy ld ad am Fa Ga Ra Sa [.ref am, .int p1]) (mz_j D cy ad am Fa Ga Ra Sa (fun r => 0 ≤ r.toInt ∧ r.toInt ≤ 1 ∧ 0 ≤ r.toInt ∧ r.toInt ≤ 1)) 0 0 (mz_W ad am) := by
  refine mz_met (y := yX13_isUp) (cc := cX13_isUp) (maxL := 2) (ret := (some .boolean)) (av := [.ref am, .int p1]) _ (by decide) (Nat.le_of_ble_eq_true rfl) ?_
  intro p e s m args below meth c hx hb hr hml hts htl hown hlocks hK H locs hM hS ls hl
  have hown : s.vm.findClass RX13 = some m.cls := hown
  have hl : lv_has ls 2 [(0, .ref am), (1, .int p1)] := hl
  have hr_p1 := tk_rng p1
  refine lv_aload_n hx hb dX13_isUp_0 rfl (lv_at hl 0 rfl) ?_
  refine lv_iload_n hx hb dX13_isUp_1 rfl (lv_at hl 1 rfl) ?_
  refine lv_iconst (v := 3) hx hb dX13_isUp_2 (by decide) ?_
  have hk_3 : (3 : Int32).toInt = 3 := by decide
  refine mz_Vj (As := [.int p1, .int 3]) (rest := []) ⟨hx, hb, hml, hown, hts⟩ hK hM hS (k_X13_ofSinger_3 l D cy ld ad am hD _ _ _ _ p1 hIF hIG hIR (by omega) (by omega)) ⟨callB_of 2 hts (wl_in mw_324) rfl rfl rfl (htl _ mw_5) (htl _ mw_321) hd_yX13_ofSinger ⟨(Nat.le_of_ble_eq_true rfl), (Nat.le_of_ble_eq_true rfl)⟩, htl _ mw_322, htl _ mw_323⟩ rfl hl.1 rfl (Nat.le_of_ble_eq_true rfl) dX13_isUp_3 ⟨(Nat.le_of_ble_eq_true rfl), (Nat.le_of_ble_eq_true rfl)⟩ (fun v1 H locs hpo hM hS => ?_)
  have hq_v1 := tk_rng v1
  refine lv_if_ne (tgt := 22) hx hb dX13_isUp_6 (by decide) (fun c9 => ?_) (fun c9 => ?_)
  · have hc3 : ¬ (v1.toInt = 0) := fun h9 => c9 ((fi_eq rfl (show (0 : Int32).toInt = 0 by decide)).mpr h9)
    refine lv_iconst (v := 0) hx hb dX13_isUp_22 (by decide) ?_
    have hk_0 : (0 : Int32).toInt = 0 := by decide
    exact mz_jret (v := 0) hx hb hr rfl hlocks ⟨(by omega), (by omega), (by omega), (by omega)⟩ hM hS dX13_isUp_23
  · have hc3 : v1.toInt = 0 := (fi_eq rfl (show (0 : Int32).toInt = 0 by decide)).mp c9
    refine lv_aload_n hx hb dX13_isUp_9 rfl (lv_at hl 0 rfl) ?_
    refine lv_iload_n hx hb dX13_isUp_10 rfl (lv_at hl 1 rfl) ?_
    refine lv_iconst (v := 0) hx hb dX13_isUp_11 (by decide) ?_
    have hk_0 : (0 : Int32).toInt = 0 := by decide
    refine mz_Vj (As := [.int p1, .int 0]) (rest := []) ⟨hx, hb, hml, hown, hts⟩ hK hM hS (k_X13_ofSinger_0 l D cy ld ad am hD _ _ _ _ p1 hIF hIG hIR (by omega) (by omega)) ⟨callB_of 2 hts (wl_in mw_324) rfl rfl rfl (htl _ mw_5) (htl _ mw_321) hd_yX13_ofSinger ⟨(Nat.le_of_ble_eq_true rfl), (Nat.le_of_ble_eq_true rfl)⟩, htl _ mw_322, htl _ mw_323⟩ rfl hl.1 rfl (Nat.le_of_ble_eq_true rfl) dX13_isUp_12 ⟨(Nat.le_of_ble_eq_true rfl), (Nat.le_of_ble_eq_true rfl)⟩ (fun v4 H locs hpo hM hS => ?_)
    have hq_v4 := tk_rng v4
    refine lv_if_le (tgt := 22) hx hb dX13_isUp_15 (by decide) (fun c9 => ?_) (fun c9 => ?_)
    · have hc6 : v4.toInt ≤ 0 := (fi_le rfl (show (0 : Int32).toInt = 0 by decide)).mp c9
      refine lv_iconst (v := 0) hx hb dX13_isUp_22 (by decide) ?_
      have hk_0 : (0 : Int32).toInt = 0 := by decide
      exact mz_jret (v := 0) hx hb hr rfl hlocks ⟨(by omega), (by omega), (by omega), (by omega)⟩ hM hS dX13_isUp_23
    · have hc6 : ¬ (v4.toInt ≤ 0) := fun h9 => c9 ((fi_le rfl (show (0 : Int32).toInt = 0 by decide)).mpr h9)
      refine lv_iconst (v := 1) hx hb dX13_isUp_18 (by decide) ?_
      refine lv_goto (tgt := 23) hx hb dX13_isUp_19 (by decide) ?_
      have hk_1 : (1 : Int32).toInt = 1 := by decide
      exact mz_jret (v := 1) hx hb hr rfl hlocks ⟨(by omega), (by omega), (by omega), (by omega)⟩ hM hS dX13_isUp_23
theorem dX13_duel_0 : decode cX13_duel 0 = .ok (.aload_n 0, 1) := by decide +kernel
theorem dX13_duel_1 : decode cX13_duel 1 = .ok (.iconst 0, 1) := by decide +kernel
theorem dX13_duel_2 : decode cX13_duel 2 = .ok (.putfield 170, 3) := by decide +kernel
theorem dX13_duel_5 : decode cX13_duel 5 = .ok (.iload_n 1, 1) := by decide +kernel
theorem dX13_duel_6 : decode cX13_duel 6 = .ok (.i2l, 1) := by decide +kernel
theorem dX13_duel_7 : decode cX13_duel 7 = .ok (.lconst 0, 1) := by decide +kernel
theorem dX13_duel_8 : decode cX13_duel 8 = .ok (.ldc2_w 466, 3) := by decide +kernel
theorem dX13_duel_11 : decode cX13_duel 11 = .ok (.invokestatic 190, 3) := by decide +kernel
theorem dX13_duel_14 : decode cX13_duel 14 = .ok (.ifCond .eq 11, 3) := by decide +kernel
theorem dX13_duel_25 : decode cX13_duel 25 = .ok (.iconst (-1), 1) := by decide +kernel
theorem dX13_duel_26 : decode cX13_duel 26 = .ok (.ireturn, 1) := by decide +kernel
theorem dX13_duel_17 : decode cX13_duel 17 = .ok (.aload_n 0, 1) := by decide +kernel
theorem dX13_duel_18 : decode cX13_duel 18 = .ok (.iload_n 1, 1) := by decide +kernel
theorem dX13_duel_19 : decode cX13_duel 19 = .ok (.invokevirtual 194, 3) := by decide +kernel
theorem dX13_duel_22 : decode cX13_duel 22 = .ok (.goto 4, 3) := by decide +kernel
set_option maxHeartbeats 4000000 in
set_option maxRecDepth 100000 in
theorem k_X13_duel (l : Launch) (D : va_G) (cy : Nat → ClassId) (ld ad : Nat → Nat) (am : Nat) (hD : mz_D ad am) (Fa : Nat → Int32) (Ga : Nat → Int64) (Ra : Nat → Nat → Int32) (Sa : Nat → Nat → Int64) (p1 : Int32) (hIF : mz_IF true Fa) (hIG : mz_IG Ga) (hIR : mz_IR [] true Ra) : Met l yX13_duel (wl yX13_duel cX13_duel 2 (some .int)) ({ frames := 4, cells := 0, slots := 0, locals := 210 }) (mz_p D cy ld ad am Fa Ga Ra Sa [.ref am, .int p1]) (mz_i D cy ad am (fun r F G R S => mz_IF true F ∧ mz_IG G ∧ mz_IR [] true R ∧ (∀ k : Nat, k ∉ ([0] : List Nat) → F k = Fa k) ∧ (∀ k : Nat, k ∉ ([] : List Nat) → R k = Ra k) ∧ (∀ k : Nat, k ∉ ([] : List Nat) → G k = Ga k))) 0 0 (mz_W ad am) := by
  refine mz_met (y := yX13_duel) (cc := cX13_duel) (maxL := 2) (ret := (some .int)) (av := [.ref am, .int p1]) _ (by decide) (Nat.le_of_ble_eq_true rfl) ?_
  intro p e s m args below meth c hx hb hr hml hts htl hown hlocks hK H locs hM hS ls hl
  have hown : s.vm.findClass RX13 = some m.cls := hown
  have hl : lv_has ls 2 [(0, .ref am), (1, .int p1)] := hl
  have hr_p1 := tk_rng p1
  refine lv_aload_n hx hb dX13_duel_0 rfl (lv_at hl 0 rfl) ?_
  refine lv_iconst (v := 0) hx hb dX13_duel_1 (by decide) ?_
  have hk_0 : (0 : Int32).toInt = 0 := by decide
  refine mz_putI (ty := .int) (x := 0) hx hb htl hown hK hD hM hS 0 (Nat.le_of_ble_eq_true rfl) rfl (htl _ mw_286) (fun _ h9 => h9) rfl (tyX13_ok 0 (by decide)) rfl rfl dX13_duel_2 (fun H locs F hM hS hf9 hj9 => ?_)
  have hIF := hIF.put hf9 hj9 (tk_rng _).1 (tk_rng _).2 (by decide)
  have hFF := mz_frp (K := [0]) (Fa := Fa) hj9 (fun _ _ => rfl) (by decide)
  have hf2 := hf9
  refine lv_iload_n hx hb dX13_duel_5 rfl (lv_at hl 1 rfl) ?_
  obtain ⟨w3, e_w3, h_w3⟩ : ∃ z : Int64, p1.toInt64 = z ∧ z.toInt = p1.toInt := ⟨_, rfl, fl_w _⟩
  refine lv_i2l (v := w3) hx hb dX13_duel_6 e_w3 ?_
  refine lv_lconst (v := 0) hx hb dX13_duel_7 (by decide) ?_
  refine lv_ldc2 hx hb hown (htl _ mw_1238) dX13_duel_8 ?_
  have hk_0 : (0 : Int64).toInt = 0 := by decide
  have hk_5 : (5 : Int64).toInt = 5 := by decide
  refine mz_Sj (As := [.long w3, .long 0, .long 5]) (rest := []) ⟨hx, hb, hml, hown, hts⟩ hK hM hS (k_X13_in l D cy ld ad am hD _ _ _ _ w3 0 5) ⟨callB_of 3 hts (wl_in mw_292) rfl rfl rfl (htl _ mw_5) (htl _ mw_290) hd_yX13_in ⟨(Nat.le_of_ble_eq_true rfl), (Nat.le_of_ble_eq_true rfl)⟩, htl _ mw_291⟩ rfl hl.1 rfl (Nat.le_of_ble_eq_true rfl) dX13_duel_11 ⟨(Nat.le_of_ble_eq_true rfl), (Nat.le_of_ble_eq_true rfl)⟩ (fun v4 H locs hpo hM hS => ?_)
  obtain ⟨hpo5, hpo6, hpo7, hpo8, hpo9, hpo10⟩ := hpo
  have hq_v4 := tk_rng v4
  refine lv_if_eq (tgt := 25) hx hb dX13_duel_14 (by decide) (fun c9 => ?_) (fun c9 => ?_)
  · have hc12 : v4.toInt = 0 := (fi_eq rfl (show (0 : Int32).toInt = 0 by decide)).mp c9
    refine lv_iconst (v := (-1)) hx hb dX13_duel_25 (by decide) ?_
    have hk_m1 : ((-1) : Int32).toInt = (-1) := by decide
    exact mz_iret (v := (-1)) hx hb hr rfl hlocks ⟨hIF, hIG, hIR, hFF, (fun _ _ => rfl), (fun _ _ => rfl)⟩ hM hS dX13_duel_26
  · have hc12 : ¬ (v4.toInt = 0) := fun h9 => c9 ((fi_eq rfl (show (0 : Int32).toInt = 0 by decide)).mpr h9)
    refine lv_aload_n hx hb dX13_duel_17 rfl (lv_at hl 0 rfl) ?_
    refine lv_iload_n hx hb dX13_duel_18 rfl (lv_at hl 1 rfl) ?_
    refine mz_Vj (As := [.int p1]) (rest := []) ⟨hx, hb, hml, hown, hts⟩ hK hM hS (k_X13_inDuel l D cy ld ad am hD _ _ _ _ p1 hIF hIG hIR (by omega) (by omega)) ⟨callB_of 1 hts (wl_in mw_1046) rfl rfl rfl (htl _ mw_5) (htl _ mw_1043) hd_yX13_inDuel ⟨(Nat.le_of_ble_eq_true rfl), (Nat.le_of_ble_eq_true rfl)⟩, htl _ mw_1044, htl _ mw_1045⟩ rfl hl.1 rfl (Nat.le_of_ble_eq_true rfl) dX13_duel_19 ⟨(Nat.le_of_ble_eq_true rfl), (Nat.le_of_ble_eq_true rfl)⟩ (fun v13 H locs hpo hM hS => ?_)
    have hq_v13 := tk_rng v13
    refine lv_goto (tgt := 26) hx hb dX13_duel_22 (by decide) ?_
    exact mz_iret (v := v13) hx hb hr rfl hlocks ⟨hIF, hIG, hIR, hFF, (fun _ _ => rfl), (fun _ _ => rfl)⟩ hM hS dX13_duel_26
theorem dX13_seenBy_0 : decode cX13_seenBy 0 = .ok (.iload_n 0, 1) := by decide +kernel
theorem dX13_seenBy_1 : decode cX13_seenBy 1 = .ok (.ifCond .ne 5, 3) := by decide +kernel
theorem dX13_seenBy_6 : decode cX13_seenBy 6 = .ok (.iload_n 0, 1) := by decide +kernel
theorem dX13_seenBy_7 : decode cX13_seenBy 7 = .ok (.bipush 10, 2) := by decide +kernel
theorem dX13_seenBy_9 : decode cX13_seenBy 9 = .ok (.idiv, 1) := by decide +kernel
theorem dX13_seenBy_10 : decode cX13_seenBy 10 = .ok (.istore_n 2, 1) := by decide +kernel
theorem dX13_seenBy_11 : decode cX13_seenBy 11 = .ok (.iload_n 0, 1) := by decide +kernel
theorem dX13_seenBy_12 : decode cX13_seenBy 12 = .ok (.bipush 10, 2) := by decide +kernel
theorem dX13_seenBy_14 : decode cX13_seenBy 14 = .ok (.irem, 1) := by decide +kernel
theorem dX13_seenBy_15 : decode cX13_seenBy 15 = .ok (.iload_n 1, 1) := by decide +kernel
theorem dX13_seenBy_16 : decode cX13_seenBy 16 = .ok (.if_icmp .ne 10, 3) := by decide +kernel
theorem dX13_seenBy_26 : decode cX13_seenBy 26 = .ok (.bipush 100, 2) := by decide +kernel
theorem dX13_seenBy_28 : decode cX13_seenBy 28 = .ok (.iload_n 2, 1) := by decide +kernel
theorem dX13_seenBy_29 : decode cX13_seenBy 29 = .ok (.isub, 1) := by decide +kernel
theorem dX13_seenBy_30 : decode cX13_seenBy 30 = .ok (.ireturn, 1) := by decide +kernel
theorem dX13_seenBy_19 : decode cX13_seenBy 19 = .ok (.iload_n 2, 1) := by decide +kernel
theorem dX13_seenBy_20 : decode cX13_seenBy 20 = .ok (.bipush 100, 2) := by decide +kernel
theorem dX13_seenBy_22 : decode cX13_seenBy 22 = .ok (.isub, 1) := by decide +kernel
theorem dX13_seenBy_23 : decode cX13_seenBy 23 = .ok (.goto 7, 3) := by decide +kernel
theorem dX13_seenBy_4 : decode cX13_seenBy 4 = .ok (.iconst 0, 1) := by decide +kernel
theorem dX13_seenBy_5 : decode cX13_seenBy 5 = .ok (.ireturn, 1) := by decide +kernel
set_option maxHeartbeats 4000000 in
set_option maxRecDepth 100000 in
theorem k_X13_seenBy (l : Launch) (D : va_G) (cy : Nat → ClassId) (ld ad : Nat → Nat) (am : Nat) (hD : mz_D ad am) (Fa : Nat → Int32) (Ga : Nat → Int64) (Ra : Nat → Nat → Int32) (Sa : Nat → Nat → Int64) (p0 : Int32) (p1 : Int32) : Met l yX13_seenBy (wl yX13_seenBy cX13_seenBy 3 (some .int)) ({ frames := 3, cells := 0, slots := 0, locals := 140 }) (mz_p D cy ld ad am Fa Ga Ra Sa [.int p0, .int p1]) (mz_j D cy ad am Fa Ga Ra Sa (fun r => True)) 0 0 (mz_W ad am) := by
  refine mz_met (y := yX13_seenBy) (cc := cX13_seenBy) (maxL := 3) (ret := (some .int)) (av := [.int p0, .int p1]) _ (by decide) (Nat.le_of_ble_eq_true rfl) ?_
  intro p e s m args below meth c hx hb hr hml hts htl hown hlocks hK H locs hM hS ls hl
  have hown : s.vm.findClass RX13 = some m.cls := hown
  have hl : lv_has ls 3 [(0, .int p0), (1, .int p1)] := hl
  have hr_p0 := tk_rng p0
  have hr_p1 := tk_rng p1
  refine lv_iload_n hx hb dX13_seenBy_0 rfl (lv_at hl 0 rfl) ?_
  refine lv_if_ne (tgt := 6) hx hb dX13_seenBy_1 (by decide) (fun c9 => ?_) (fun c9 => ?_)
  · have hc1 : ¬ (p0.toInt = 0) := fun h9 => c9 ((fi_eq rfl (show (0 : Int32).toInt = 0 by decide)).mpr h9)
    refine lv_iload_n hx hb dX13_seenBy_6 rfl (lv_at hl 0 rfl) ?_
    refine lv_bipush (v := 10) hx hb dX13_seenBy_7 (by decide) ?_
    refine lv_idiv hx hb dX13_seenBy_9 (by decide) ?_
    refine tk_any (fun v2 => ?_)
    refine lv_istore_n (lv' := [(2, .int v2), (0, .int p0), (1, .int p1)]) hx hb dX13_seenBy_10 rfl hl (by decide) rfl (fun ls hl => ?_)
    refine lv_iload_n hx hb dX13_seenBy_11 rfl (lv_at hl 1 rfl) ?_
    refine lv_bipush (v := 10) hx hb dX13_seenBy_12 (by decide) ?_
    refine lv_irem hx hb dX13_seenBy_14 (by decide) ?_
    refine tk_any (fun v3 => ?_)
    refine lv_iload_n hx hb dX13_seenBy_15 rfl (lv_at hl 2 rfl) ?_
    refine lv_icmp_ne (tgt := 26) hx hb dX13_seenBy_16 (by decide) (fun c9 => ?_) (fun c9 => ?_)
    · have hc4 : ¬ (v3.toInt = p1.toInt) := fun h9 => c9 ((fi_eq rfl rfl).mpr h9)
      refine lv_bipush (v := 100) hx hb dX13_seenBy_26 (by decide) ?_
      refine lv_iload_n hx hb dX13_seenBy_28 rfl (lv_at hl 0 rfl) ?_
      refine lv_isub hx hb dX13_seenBy_29 ?_
      obtain ⟨v5, hm_v5⟩ : ∃ z : Int32, 100 - v2 = z := ⟨_, rfl⟩
      refine fx_ti hm_v5 ?_
      exact mz_jret (v := v5) hx hb hr rfl hlocks trivial hM hS dX13_seenBy_30
    · have hc4 : v3.toInt = p1.toInt := (fi_eq rfl rfl).mp c9
      refine lv_iload_n hx hb dX13_seenBy_19 rfl (lv_at hl 0 rfl) ?_
      refine lv_bipush (v := 100) hx hb dX13_seenBy_20 (by decide) ?_
      refine lv_isub hx hb dX13_seenBy_22 ?_
      obtain ⟨v6, hm_v6⟩ : ∃ z : Int32, v2 - 100 = z := ⟨_, rfl⟩
      refine fx_ti hm_v6 ?_
      refine lv_goto (tgt := 30) hx hb dX13_seenBy_23 (by decide) ?_
      exact mz_jret (v := v6) hx hb hr rfl hlocks trivial hM hS dX13_seenBy_30
  · have hc1 : p0.toInt = 0 := (fi_eq rfl (show (0 : Int32).toInt = 0 by decide)).mp c9
    refine lv_iconst (v := 0) hx hb dX13_seenBy_4 (by decide) ?_
    have hk_0 : (0 : Int32).toInt = 0 := by decide
    exact mz_jret (v := 0) hx hb hr rfl hlocks trivial hM hS dX13_seenBy_5
theorem dX13_draw_0 : decode cX13_draw 0 = .ok (.aload_n 0, 1) := by decide +kernel
theorem dX13_draw_1 : decode cX13_draw 1 = .ok (.aload_n 0, 1) := by decide +kernel
theorem dX13_draw_2 : decode cX13_draw 2 = .ok (.getfield 507, 3) := by decide +kernel
theorem dX13_draw_5 : decode cX13_draw 5 = .ok (.ldc2_w 510, 3) := by decide +kernel
theorem dX13_draw_8 : decode cX13_draw 8 = .ok (.lmul, 1) := by decide +kernel
theorem dX13_draw_9 : decode cX13_draw 9 = .ok (.ldc2_w 512, 3) := by decide +kernel
theorem dX13_draw_12 : decode cX13_draw 12 = .ok (.ladd, 1) := by decide +kernel
theorem dX13_draw_13 : decode cX13_draw 13 = .ok (.ldc2_w 514, 3) := by decide +kernel
theorem dX13_draw_16 : decode cX13_draw 16 = .ok (.lrem, 1) := by decide +kernel
theorem dX13_draw_17 : decode cX13_draw 17 = .ok (.putfield 507, 3) := by decide +kernel
theorem dX13_draw_20 : decode cX13_draw 20 = .ok (.aload_n 0, 1) := by decide +kernel
theorem dX13_draw_21 : decode cX13_draw 21 = .ok (.getfield 507, 3) := by decide +kernel
theorem dX13_draw_24 : decode cX13_draw 24 = .ok (.iload_n 1, 1) := by decide +kernel
theorem dX13_draw_25 : decode cX13_draw 25 = .ok (.i2l, 1) := by decide +kernel
theorem dX13_draw_26 : decode cX13_draw 26 = .ok (.lrem, 1) := by decide +kernel
theorem dX13_draw_27 : decode cX13_draw 27 = .ok (.l2i, 1) := by decide +kernel
theorem dX13_draw_28 : decode cX13_draw 28 = .ok (.ireturn, 1) := by decide +kernel
set_option maxHeartbeats 4000000 in
set_option maxRecDepth 100000 in
theorem k_X13_draw (l : Launch) (D : va_G) (cy : Nat → ClassId) (ld ad : Nat → Nat) (am : Nat) (hD : mz_D ad am) (Fa : Nat → Int32) (Ga : Nat → Int64) (Ra : Nat → Nat → Int32) (Sa : Nat → Nat → Int64) (p1 : Int32) (hIF : mz_IF true Fa) (hIG : mz_IG Ga) (hIR : mz_IR [] true Ra) (hp_0 : 1 ≤ p1.toInt) (hp_1 : p1.toInt ≤ 1000) : Met l yX13_draw (wl yX13_draw cX13_draw 2 (some .int)) ({ frames := 3, cells := 0, slots := 0, locals := 140 }) (mz_p D cy ld ad am Fa Ga Ra Sa [.ref am, .int p1]) (mz_i D cy ad am (fun r F G R S => mz_IF true F ∧ mz_IG G ∧ mz_IR [] true R ∧ (∀ k : Nat, k ∉ ([] : List Nat) → F k = Fa k) ∧ (∀ k : Nat, k ∉ ([] : List Nat) → R k = Ra k) ∧ (∀ k : Nat, k ∉ ([47] : List Nat) → G k = Ga k) ∧ 0 ≤ r.toInt ∧ 0 ≤ p1.toInt + (-1) * r.toInt + (-1) ∧ 0 ≤ r.toInt ∧ r.toInt ≤ 999)) 0 0 (mz_W ad am) := by
  refine mz_met (y := yX13_draw) (cc := cX13_draw) (maxL := 2) (ret := (some .int)) (av := [.ref am, .int p1]) _ (by decide) (Nat.le_of_ble_eq_true rfl) ?_
  intro p e s m args below meth c hx hb hr hml hts htl hown hlocks hK H locs hM hS ls hl
  have hown : s.vm.findClass RX13 = some m.cls := hown
  have hl : lv_has ls 2 [(0, .ref am), (1, .int p1)] := hl
  have hr_p1 := tk_rng p1
  refine lv_aload_n hx hb dX13_draw_0 rfl (lv_at hl 0 rfl) ?_
  refine lv_aload_n hx hb dX13_draw_1 rfl (lv_at hl 0 rfl) ?_
  refine mz_getJ hx hb htl hown hK hM 47 (Nat.le_of_ble_eq_true rfl) rfl (htl _ mw_1386) (fun _ h9 => h9) dX13_draw_2 (fun w1 e_w1 => ?_)
  have hr_w1 : 0 ≤ w1.toInt ∧ w1.toInt ≤ 1000002 := e_w1 ▸ hIG
  refine lv_ldc2 hx hb hown (htl _ mw_1387) dX13_draw_5 ?_
  refine lv_lmul hx hb dX13_draw_8 ?_
  refine tk_lmul rfl (show (1103 : Int64).toInt = 1103 by decide) (by omega) (by omega) (fun w2 h_w2 => ?_)
  refine lv_ldc2 hx hb hown (htl _ mw_1388) dX13_draw_9 ?_
  refine lv_ladd hx hb dX13_draw_12 ?_
  refine tk_ladd rfl (show (12345 : Int64).toInt = 12345 by decide) (by omega) (by omega) (fun w3 h_w3 => ?_)
  refine lv_ldc2 hx hb hown (htl _ mw_1389) dX13_draw_13 ?_
  refine lv_lrem hx hb dX13_draw_16 (by decide) ?_
  refine tk_sayl (P := fun z => 0 ≤ z.toInt ∧ z.toInt < 1000003) (tk_remL rfl (show (1000003 : Int64).toInt = 1000003 by decide) (by omega) (by omega)) (fun w4 h_w4 => ?_)
  refine mz_putJ (ty := .long) (x := w4) hx hb htl hown hK hD hM hS 47 (Nat.le_of_ble_eq_true rfl) rfl (htl _ mw_1386) (fun _ h9 => h9) rfl (tyX13_ok 47 (by decide)) rfl rfl dX13_draw_17 (fun H locs G hM hS hf9 hj9 => ?_)
  have hIG := mz_IG.put47 hf9 (by omega) (by omega)
  have hGG := mz_frp (K := [47]) (Fa := Ga) hj9 (fun _ _ => rfl) (by decide)
  have hf6 := hf9
  refine lv_aload_n hx hb dX13_draw_20 rfl (lv_at hl 0 rfl) ?_
  refine mz_getJ hx hb htl hown hK hM 47 (Nat.le_of_ble_eq_true rfl) rfl (htl _ mw_1386) (fun _ h9 => h9) dX13_draw_21 (fun v9 e9 => ?_)
  refine fx_tl (v := w4) (e9.symm.trans hf6) ?_
  refine lv_iload_n hx hb dX13_draw_24 rfl (lv_at hl 1 rfl) ?_
  obtain ⟨w7, e_w7, h_w7⟩ : ∃ z : Int64, p1.toInt64 = z ∧ z.toInt = p1.toInt := ⟨_, rfl, fl_w _⟩
  refine lv_i2l (v := w7) hx hb dX13_draw_25 e_w7 ?_
  refine lv_lrem hx hb dX13_draw_26 (fun h9 => absurd ((fl_eq rfl (show (0 : Int64).toInt = 0 by decide)).mp h9) (by omega)) ?_
  refine tk_sayl (P := fun z => 0 ≤ z.toInt ∧ z.toInt < w7.toInt) (tk_remL rfl rfl (by omega) (by omega)) (fun w8 h_w8 => ?_)
  obtain ⟨v9, e_v9, h_v9⟩ : ∃ z : Int32, w8.toInt32 = z ∧ z.toInt = w8.toInt := ⟨_, rfl, tk_l2i (by omega) (by omega)⟩
  refine lv_l2i (v := v9) hx hb dX13_draw_27 e_v9 ?_
  exact mz_iret (v := v9) hx hb hr rfl hlocks ⟨hIF, hIG, hIR, (fun _ _ => rfl), (fun _ _ => rfl), hGG, (by omega), (by omega), (by omega), (by omega)⟩ hM hS dX13_draw_28
set_option maxHeartbeats 4000000 in
set_option maxRecDepth 100000 in
theorem k_X13_ofSinger_2 (l : Launch) (D : va_G) (cy : Nat → ClassId) (ld ad : Nat → Nat) (am : Nat) (hD : mz_D ad am) (Fa : Nat → Int32) (Ga : Nat → Int64) (Ra : Nat → Nat → Int32) (Sa : Nat → Nat → Int64) (p1 : Int32) (hIF : mz_IF true Fa) (hIG : mz_IG Ga) (hIR : mz_IR [] true Ra) (hp_0 : (-1) ≤ p1.toInt) (hp_1 : p1.toInt ≤ 7) : Met l yX13_ofSinger (wl yX13_ofSinger cX13_ofSinger 3 (some .int)) ({ frames := 3, cells := 0, slots := 0, locals := 140 }) (mz_p D cy ld ad am Fa Ga Ra Sa [.ref am, .int p1, .int 2]) (mz_j D cy ad am Fa Ga Ra Sa (fun r => True)) 0 0 (mz_W ad am) := by
  refine mz_met (y := yX13_ofSinger) (cc := cX13_ofSinger) (maxL := 3) (ret := (some .int)) (av := [.ref am, .int p1, .int 2]) _ (by decide) (Nat.le_of_ble_eq_true rfl) ?_
  intro p e s m args below meth c hx hb hr hml hts htl hown hlocks hK H locs hM hS ls hl
  have hown : s.vm.findClass RX13 = some m.cls := hown
  have hl : lv_has ls 3 [(0, .ref am), (1, .int p1), (2, .int 2)] := hl
  have hr_p1 := tk_rng p1
  refine lv_aload_n hx hb dX13_ofSinger_0 rfl (lv_at hl 0 rfl) ?_
  refine mz_getR hx hb htl hown hK hM 3 (Nat.le_of_ble_eq_true rfl) (Nat.le_of_ble_eq_true rfl) (htl _ mw_188) (fun _ h9 => h9) dX13_ofSinger_1 ?_
  refine lv_bipush (v := 18) hx hb dX13_ofSinger_4 (by decide) ?_
  refine lv_iconst (v := 5) hx hb dX13_ofSinger_6 (by decide) ?_
  refine lv_iload_n hx hb dX13_ofSinger_7 rfl (lv_at hl 1 rfl) ?_
  refine lv_imul hx hb dX13_ofSinger_8 ?_
  refine tk_mul (show (5 : Int32).toInt = 5 by decide) rfl (by omega) (by omega) (fun v1 h_v1 => ?_)
  refine lv_iadd hx hb dX13_ofSinger_9 ?_
  refine tk_add (show (18 : Int32).toInt = 18 by decide) rfl (by omega) (by omega) (fun v2 h_v2 => ?_)
  refine lv_iload_n hx hb dX13_ofSinger_10 rfl (lv_at hl 2 rfl) ?_
  refine lv_iadd hx hb dX13_ofSinger_11 ?_
  refine tk_add rfl (show (2 : Int32).toInt = 2 by decide) (by omega) (by omega) (fun v3 h_v3 => ?_)
  refine mz_iald hx hb hK hM 3 (Nat.le_of_ble_eq_true rfl) rfl (nn := 5560) rfl rfl (by omega) (by omega) dX13_ofSinger_12 (fun v4 e_v4 => ?_)
  have hq_v4 := tk_rng v4
  exact mz_jret (v := v4) hx hb hr rfl hlocks trivial hM hS dX13_ofSinger_13
theorem dX13_areFoes_0 : decode cX13_areFoes 0 = .ok (.aload_n 0, 1) := by decide +kernel
theorem dX13_areFoes_1 : decode cX13_areFoes 1 = .ok (.iload_n 1, 1) := by decide +kernel
theorem dX13_areFoes_2 : decode cX13_areFoes 2 = .ok (.invokevirtual 201, 3) := by decide +kernel
theorem dX13_areFoes_5 : decode cX13_areFoes 5 = .ok (.ifCond .eq 30, 3) := by decide +kernel
theorem dX13_areFoes_35 : decode cX13_areFoes 35 = .ok (.iconst 0, 1) := by decide +kernel
theorem dX13_areFoes_36 : decode cX13_areFoes 36 = .ok (.ireturn, 1) := by decide +kernel
theorem dX13_areFoes_8 : decode cX13_areFoes 8 = .ok (.aload_n 0, 1) := by decide +kernel
theorem dX13_areFoes_9 : decode cX13_areFoes 9 = .ok (.iload_n 2, 1) := by decide +kernel
theorem dX13_areFoes_10 : decode cX13_areFoes 10 = .ok (.invokevirtual 201, 3) := by decide +kernel
theorem dX13_areFoes_13 : decode cX13_areFoes 13 = .ok (.ifCond .eq 22, 3) := by decide +kernel
theorem dX13_areFoes_16 : decode cX13_areFoes 16 = .ok (.aload_n 0, 1) := by decide +kernel
theorem dX13_areFoes_17 : decode cX13_areFoes 17 = .ok (.iload_n 1, 1) := by decide +kernel
theorem dX13_areFoes_18 : decode cX13_areFoes 18 = .ok (.iconst 2, 1) := by decide +kernel
theorem dX13_areFoes_19 : decode cX13_areFoes 19 = .ok (.invokevirtual 207, 3) := by decide +kernel
theorem dX13_areFoes_22 : decode cX13_areFoes 22 = .ok (.aload_n 0, 1) := by decide +kernel
theorem dX13_areFoes_23 : decode cX13_areFoes 23 = .ok (.iload_n 2, 1) := by decide +kernel
theorem dX13_areFoes_24 : decode cX13_areFoes 24 = .ok (.iconst 2, 1) := by decide +kernel
theorem dX13_areFoes_25 : decode cX13_areFoes 25 = .ok (.invokevirtual 207, 3) := by decide +kernel
theorem dX13_areFoes_28 : decode cX13_areFoes 28 = .ok (.if_icmp .eq 7, 3) := by decide +kernel
theorem dX13_areFoes_31 : decode cX13_areFoes 31 = .ok (.iconst 1, 1) := by decide +kernel
theorem dX13_areFoes_32 : decode cX13_areFoes 32 = .ok (.goto 4, 3) := by decide +kernel
set_option maxHeartbeats 4000000 in
set_option maxRecDepth 100000 in
theorem k_X13_areFoes (l : Launch) (D : va_G) (cy : Nat → ClassId) (ld ad : Nat → Nat) (am : Nat) (hD : mz_D ad am) (Fa : Nat → Int32) (Ga : Nat → Int64) (Ra : Nat → Nat → Int32) (Sa : Nat → Nat → Int64) (p1 : Int32) (p2 : Int32) (hIF : mz_IF true Fa) (hIG : mz_IG Ga) (hIR : mz_IR [] true Ra) : Met l yX13_areFoes (wl yX13_areFoes cX13_areFoes 3 (some .boolean)) ({ frames := 5, cells := 0, slots := 0, locals := 280 }) (mz_p D cy ld ad am Fa Ga Ra Sa [.ref am, .int p1, .int p2]) (mz_j D cy ad am Fa Ga Ra Sa (fun r => (1 ≤ r.toInt → 0 ≤ p1.toInt ∧ p1.toInt ≤ 7 ∧ 0 ≤ p2.toInt ∧ p2.toInt ≤ 7) ∧ 0 ≤ r.toInt ∧ r.toInt ≤ 1 ∧ 0 ≤ r.toInt ∧ r.toInt ≤ 1)) 0 0 (mz_W ad am) := by
  refine mz_met (y := yX13_areFoes) (cc := cX13_areFoes) (maxL := 3) (ret := (some .boolean)) (av := [.ref am, .int p1, .int p2]) _ (by decide) (Nat.le_of_ble_eq_true rfl) ?_
  intro p e s m args below meth c hx hb hr hml hts htl hown hlocks hK H locs hM hS ls hl
  have hown : s.vm.findClass RX13 = some m.cls := hown
  have hl : lv_has ls 3 [(0, .ref am), (1, .int p1), (2, .int p2)] := hl
  have hr_p1 := tk_rng p1
  have hr_p2 := tk_rng p2
  refine lv_aload_n hx hb dX13_areFoes_0 rfl (lv_at hl 0 rfl) ?_
  refine lv_iload_n hx hb dX13_areFoes_1 rfl (lv_at hl 1 rfl) ?_
  refine mz_Vj (As := [.int p1]) (rest := []) ⟨hx, hb, hml, hown, hts⟩ hK hM hS (k_X13_isSinger l D cy ld ad am hD _ _ _ _ p1 hIF hIG hIR) ⟨callB_of 1 hts (wl_in mw_320) rfl rfl rfl (htl _ mw_5) (htl _ mw_317) hd_yX13_isSinger ⟨(Nat.le_of_ble_eq_true rfl), (Nat.le_of_ble_eq_true rfl)⟩, htl _ mw_318, htl _ mw_319⟩ rfl hl.1 rfl (Nat.le_of_ble_eq_true rfl) dX13_areFoes_2 ⟨(Nat.le_of_ble_eq_true rfl), (Nat.le_of_ble_eq_true rfl)⟩ (fun v1 H locs hpo hM hS => ?_)
  obtain ⟨hpo2, hpo3, hpo4, hpo5, hpo6⟩ := hpo
  have hq_v1 := tk_rng v1
  refine lv_if_eq (tgt := 35) hx hb dX13_areFoes_5 (by decide) (fun c9 => ?_) (fun c9 => ?_)
  · have hc8 : v1.toInt = 0 := (fi_eq rfl (show (0 : Int32).toInt = 0 by decide)).mp c9
    refine lv_iconst (v := 0) hx hb dX13_areFoes_35 (by decide) ?_
    have hk_0 : (0 : Int32).toInt = 0 := by decide
    exact mz_jret (v := 0) hx hb hr rfl hlocks ⟨(by omega), (by omega), (by omega), (by omega), (by omega)⟩ hM hS dX13_areFoes_36
  · have hc8 : ¬ (v1.toInt = 0) := fun h9 => c9 ((fi_eq rfl (show (0 : Int32).toInt = 0 by decide)).mpr h9)
    refine lv_aload_n hx hb dX13_areFoes_8 rfl (lv_at hl 0 rfl) ?_
    refine lv_iload_n hx hb dX13_areFoes_9 rfl (lv_at hl 2 rfl) ?_
    refine mz_Vj (As := [.int p2]) (rest := []) ⟨hx, hb, hml, hown, hts⟩ hK hM hS (k_X13_isSinger l D cy ld ad am hD _ _ _ _ p2 hIF hIG hIR) ⟨callB_of 1 hts (wl_in mw_320) rfl rfl rfl (htl _ mw_5) (htl _ mw_317) hd_yX13_isSinger ⟨(Nat.le_of_ble_eq_true rfl), (Nat.le_of_ble_eq_true rfl)⟩, htl _ mw_318, htl _ mw_319⟩ rfl hl.1 rfl (Nat.le_of_ble_eq_true rfl) dX13_areFoes_10 ⟨(Nat.le_of_ble_eq_true rfl), (Nat.le_of_ble_eq_true rfl)⟩ (fun v9 H locs hpo hM hS => ?_)
    obtain ⟨hpo10, hpo11, hpo12, hpo13, hpo14⟩ := hpo
    have hq_v9 := tk_rng v9
    refine lv_if_eq (tgt := 35) hx hb dX13_areFoes_13 (by decide) (fun c9 => ?_) (fun c9 => ?_)
    · have hc16 : v9.toInt = 0 := (fi_eq rfl (show (0 : Int32).toInt = 0 by decide)).mp c9
      refine lv_iconst (v := 0) hx hb dX13_areFoes_35 (by decide) ?_
      have hk_0 : (0 : Int32).toInt = 0 := by decide
      exact mz_jret (v := 0) hx hb hr rfl hlocks ⟨(by omega), (by omega), (by omega), (by omega), (by omega)⟩ hM hS dX13_areFoes_36
    · have hc16 : ¬ (v9.toInt = 0) := fun h9 => c9 ((fi_eq rfl (show (0 : Int32).toInt = 0 by decide)).mpr h9)
      refine lv_aload_n hx hb dX13_areFoes_16 rfl (lv_at hl 0 rfl) ?_
      refine lv_iload_n hx hb dX13_areFoes_17 rfl (lv_at hl 1 rfl) ?_
      refine lv_iconst (v := 2) hx hb dX13_areFoes_18 (by decide) ?_
      have hk_2 : (2 : Int32).toInt = 2 := by decide
      refine mz_Vj (As := [.int p1, .int 2]) (rest := []) ⟨hx, hb, hml, hown, hts⟩ hK hM hS (k_X13_ofSinger_2 l D cy ld ad am hD _ _ _ _ p1 hIF hIG hIR (by omega) (by omega)) ⟨callB_of 2 hts (wl_in mw_324) rfl rfl rfl (htl _ mw_5) (htl _ mw_321) hd_yX13_ofSinger ⟨(Nat.le_of_ble_eq_true rfl), (Nat.le_of_ble_eq_true rfl)⟩, htl _ mw_322, htl _ mw_323⟩ rfl hl.1 rfl (Nat.le_of_ble_eq_true rfl) dX13_areFoes_19 ⟨(Nat.le_of_ble_eq_true rfl), (Nat.le_of_ble_eq_true rfl)⟩ (fun v17 H locs hpo hM hS => ?_)
      have hq_v17 := tk_rng v17
      refine lv_aload_n hx hb dX13_areFoes_22 rfl (lv_at hl 0 rfl) ?_
      refine lv_iload_n hx hb dX13_areFoes_23 rfl (lv_at hl 2 rfl) ?_
      refine lv_iconst (v := 2) hx hb dX13_areFoes_24 (by decide) ?_
      have hk_2 : (2 : Int32).toInt = 2 := by decide
      refine mz_Vj (As := [.int p2, .int 2]) (rest := [.int v17]) ⟨hx, hb, hml, hown, hts⟩ hK hM hS (k_X13_ofSinger_2 l D cy ld ad am hD _ _ _ _ p2 hIF hIG hIR (by omega) (by omega)) ⟨callB_of 2 hts (wl_in mw_324) rfl rfl rfl (htl _ mw_5) (htl _ mw_321) hd_yX13_ofSinger ⟨(Nat.le_of_ble_eq_true rfl), (Nat.le_of_ble_eq_true rfl)⟩, htl _ mw_322, htl _ mw_323⟩ rfl hl.1 rfl (Nat.le_of_ble_eq_true rfl) dX13_areFoes_25 ⟨(Nat.le_of_ble_eq_true rfl), (Nat.le_of_ble_eq_true rfl)⟩ (fun v19 H locs hpo hM hS => ?_)
      have hq_v19 := tk_rng v19
      refine lv_icmp_eq (tgt := 35) hx hb dX13_areFoes_28 (by decide) (fun c9 => ?_) (fun c9 => ?_)
      · have hc21 : v17.toInt = v19.toInt := (fi_eq rfl rfl).mp c9
        refine lv_iconst (v := 0) hx hb dX13_areFoes_35 (by decide) ?_
        have hk_0 : (0 : Int32).toInt = 0 := by decide
        exact mz_jret (v := 0) hx hb hr rfl hlocks ⟨(by omega), (by omega), (by omega), (by omega), (by omega)⟩ hM hS dX13_areFoes_36
      · have hc21 : ¬ (v17.toInt = v19.toInt) := fun h9 => c9 ((fi_eq rfl rfl).mpr h9)
        refine lv_iconst (v := 1) hx hb dX13_areFoes_31 (by decide) ?_
        refine lv_goto (tgt := 36) hx hb dX13_areFoes_32 (by decide) ?_
        have hk_1 : (1 : Int32).toInt = 1 := by decide
        exact mz_jret (v := 1) hx hb hr rfl hlocks ⟨(by omega), (by omega), (by omega), (by omega), (by omega)⟩ hM hS dX13_areFoes_36
theorem dX13_ofPiece_0 : decode cX13_ofPiece 0 = .ok (.aload_n 0, 1) := by decide +kernel
theorem dX13_ofPiece_1 : decode cX13_ofPiece 1 = .ok (.getfield 13, 3) := by decide +kernel
theorem dX13_ofPiece_4 : decode cX13_ofPiece 4 = .ok (.bipush 78, 2) := by decide +kernel
theorem dX13_ofPiece_6 : decode cX13_ofPiece 6 = .ok (.iconst 3, 1) := by decide +kernel
theorem dX13_ofPiece_7 : decode cX13_ofPiece 7 = .ok (.iload_n 1, 1) := by decide +kernel
theorem dX13_ofPiece_8 : decode cX13_ofPiece 8 = .ok (.imul, 1) := by decide +kernel
theorem dX13_ofPiece_9 : decode cX13_ofPiece 9 = .ok (.iadd, 1) := by decide +kernel
theorem dX13_ofPiece_10 : decode cX13_ofPiece 10 = .ok (.iload_n 2, 1) := by decide +kernel
theorem dX13_ofPiece_11 : decode cX13_ofPiece 11 = .ok (.iadd, 1) := by decide +kernel
theorem dX13_ofPiece_12 : decode cX13_ofPiece 12 = .ok (.iaload, 1) := by decide +kernel
theorem dX13_ofPiece_13 : decode cX13_ofPiece 13 = .ok (.ireturn, 1) := by decide +kernel
set_option maxHeartbeats 4000000 in
set_option maxRecDepth 100000 in
theorem k_X13_ofPiece (l : Launch) (D : va_G) (cy : Nat → ClassId) (ld ad : Nat → Nat) (am : Nat) (hD : mz_D ad am) (Fa : Nat → Int32) (Ga : Nat → Int64) (Ra : Nat → Nat → Int32) (Sa : Nat → Nat → Int64) (p1 : Int32) (p2 : Int32) (hIF : mz_IF true Fa) (hIG : mz_IG Ga) (hIR : mz_IR [] true Ra) (hp_0 : (-1) ≤ p1.toInt) (hp_1 : p1.toInt ≤ 10) (hp_2 : 0 ≤ p2.toInt) (hp_3 : p2.toInt ≤ 2) : Met l yX13_ofPiece (wl yX13_ofPiece cX13_ofPiece 3 (some .int)) ({ frames := 3, cells := 0, slots := 0, locals := 140 }) (mz_p D cy ld ad am Fa Ga Ra Sa [.ref am, .int p1, .int p2]) (mz_j D cy ad am Fa Ga Ra Sa (fun r => True)) 0 0 (mz_W ad am) := by
  refine mz_met (y := yX13_ofPiece) (cc := cX13_ofPiece) (maxL := 3) (ret := (some .int)) (av := [.ref am, .int p1, .int p2]) _ (by decide) (Nat.le_of_ble_eq_true rfl) ?_
  intro p e s m args below meth c hx hb hr hml hts htl hown hlocks hK H locs hM hS ls hl
  have hown : s.vm.findClass RX13 = some m.cls := hown
  have hl : lv_has ls 3 [(0, .ref am), (1, .int p1), (2, .int p2)] := hl
  have hr_p1 := tk_rng p1
  have hr_p2 := tk_rng p2
  refine lv_aload_n hx hb dX13_ofPiece_0 rfl (lv_at hl 0 rfl) ?_
  refine mz_getR hx hb htl hown hK hM 3 (Nat.le_of_ble_eq_true rfl) (Nat.le_of_ble_eq_true rfl) (htl _ mw_188) (fun _ h9 => h9) dX13_ofPiece_1 ?_
  refine lv_bipush (v := 78) hx hb dX13_ofPiece_4 (by decide) ?_
  refine lv_iconst (v := 3) hx hb dX13_ofPiece_6 (by decide) ?_
  refine lv_iload_n hx hb dX13_ofPiece_7 rfl (lv_at hl 1 rfl) ?_
  refine lv_imul hx hb dX13_ofPiece_8 ?_
  refine tk_mul (show (3 : Int32).toInt = 3 by decide) rfl (by omega) (by omega) (fun v1 h_v1 => ?_)
  refine lv_iadd hx hb dX13_ofPiece_9 ?_
  refine tk_add (show (78 : Int32).toInt = 78 by decide) rfl (by omega) (by omega) (fun v2 h_v2 => ?_)
  refine lv_iload_n hx hb dX13_ofPiece_10 rfl (lv_at hl 2 rfl) ?_
  refine lv_iadd hx hb dX13_ofPiece_11 ?_
  refine tk_add rfl rfl (by omega) (by omega) (fun v3 h_v3 => ?_)
  refine mz_iald hx hb hK hM 3 (Nat.le_of_ble_eq_true rfl) rfl (nn := 5560) rfl rfl (by omega) (by omega) dX13_ofPiece_12 (fun v4 e_v4 => ?_)
  have hq_v4 := tk_rng v4
  exact mz_jret (v := v4) hx hb hr rfl hlocks trivial hM hS dX13_ofPiece_13
theorem dX13_sight_0 : decode cX13_sight 0 = .ok (.aload_n 0, 1) := by decide +kernel
theorem dX13_sight_1 : decode cX13_sight 1 = .ok (.iconst 0, 1) := by decide +kernel
theorem dX13_sight_2 : decode cX13_sight 2 = .ok (.putfield 170, 3) := by decide +kernel
theorem dX13_sight_5 : decode cX13_sight 5 = .ok (.iload_n 3, 1) := by decide +kernel
theorem dX13_sight_6 : decode cX13_sight 6 = .ok (.i2l, 1) := by decide +kernel
theorem dX13_sight_7 : decode cX13_sight 7 = .ok (.lconst 0, 1) := by decide +kernel
theorem dX13_sight_8 : decode cX13_sight 8 = .ok (.ldc2_w 568, 3) := by decide +kernel
theorem dX13_sight_11 : decode cX13_sight 11 = .ok (.invokestatic 190, 3) := by decide +kernel
theorem dX13_sight_14 : decode cX13_sight 14 = .ok (.ifCond .eq 25, 3) := by decide +kernel
theorem dX13_sight_39 : decode cX13_sight 39 = .ok (.aload_n 0, 1) := by decide +kernel
theorem dX13_sight_40 : decode cX13_sight 40 = .ok (.iconst (-1), 1) := by decide +kernel
theorem dX13_sight_41 : decode cX13_sight 41 = .ok (.invokevirtual 183, 3) := by decide +kernel
theorem dX13_sight_44 : decode cX13_sight 44 = .ok (.ireturn, 1) := by decide +kernel
theorem dX13_sight_17 : decode cX13_sight 17 = .ok (.iload 4, 2) := by decide +kernel
theorem dX13_sight_19 : decode cX13_sight 19 = .ok (.i2l, 1) := by decide +kernel
theorem dX13_sight_20 : decode cX13_sight 20 = .ok (.lconst 0, 1) := by decide +kernel
theorem dX13_sight_21 : decode cX13_sight 21 = .ok (.lconst 1, 1) := by decide +kernel
theorem dX13_sight_22 : decode cX13_sight 22 = .ok (.invokestatic 190, 3) := by decide +kernel
theorem dX13_sight_25 : decode cX13_sight 25 = .ok (.ifCond .eq 14, 3) := by decide +kernel
theorem dX13_sight_28 : decode cX13_sight 28 = .ok (.iload 5, 2) := by decide +kernel
theorem dX13_sight_30 : decode cX13_sight 30 = .ok (.i2l, 1) := by decide +kernel
theorem dX13_sight_31 : decode cX13_sight 31 = .ok (.lconst 0, 1) := by decide +kernel
theorem dX13_sight_32 : decode cX13_sight 32 = .ok (.lconst 1, 1) := by decide +kernel
theorem dX13_sight_33 : decode cX13_sight 33 = .ok (.invokestatic 190, 3) := by decide +kernel
theorem dX13_sight_36 : decode cX13_sight 36 = .ok (.ifCond .ne 9, 3) := by decide +kernel
theorem dX13_sight_45 : decode cX13_sight 45 = .ok (.aload_n 0, 1) := by decide +kernel
theorem dX13_sight_46 : decode cX13_sight 46 = .ok (.iload_n 1, 1) := by decide +kernel
theorem dX13_sight_47 : decode cX13_sight 47 = .ok (.invokevirtual 216, 3) := by decide +kernel
theorem dX13_sight_50 : decode cX13_sight 50 = .ok (.ifCond .eq 11, 3) := by decide +kernel
theorem dX13_sight_61 : decode cX13_sight 61 = .ok (.aload_n 0, 1) := by decide +kernel
theorem dX13_sight_62 : decode cX13_sight 62 = .ok (.bipush (-2), 2) := by decide +kernel
theorem dX13_sight_64 : decode cX13_sight 64 = .ok (.invokevirtual 183, 3) := by decide +kernel
theorem dX13_sight_67 : decode cX13_sight 67 = .ok (.ireturn, 1) := by decide +kernel
theorem dX13_sight_53 : decode cX13_sight 53 = .ok (.aload_n 0, 1) := by decide +kernel
theorem dX13_sight_54 : decode cX13_sight 54 = .ok (.iload_n 2, 1) := by decide +kernel
theorem dX13_sight_55 : decode cX13_sight 55 = .ok (.invokevirtual 201, 3) := by decide +kernel
theorem dX13_sight_58 : decode cX13_sight 58 = .ok (.ifCond .ne 10, 3) := by decide +kernel
theorem dX13_sight_68 : decode cX13_sight 68 = .ok (.aload_n 0, 1) := by decide +kernel
theorem dX13_sight_69 : decode cX13_sight 69 = .ok (.getfield 13, 3) := by decide +kernel
theorem dX13_sight_72 : decode cX13_sight 72 = .ok (.iconst 3, 1) := by decide +kernel
theorem dX13_sight_73 : decode cX13_sight 73 = .ok (.iaload, 1) := by decide +kernel
theorem dX13_sight_74 : decode cX13_sight 74 = .ok (.istore 6, 2) := by decide +kernel
theorem dX13_sight_76 : decode cX13_sight 76 = .ok (.iload 6, 2) := by decide +kernel
theorem dX13_sight_78 : decode cX13_sight 78 = .ok (.bipush 8, 2) := by decide +kernel
theorem dX13_sight_80 : decode cX13_sight 80 = .ok (.if_icmp .ne 10, 3) := by decide +kernel
theorem dX13_sight_90 : decode cX13_sight 90 = .ok (.bipush 116, 2) := by decide +kernel
theorem dX13_sight_92 : decode cX13_sight 92 = .ok (.iconst 5, 1) := by decide +kernel
theorem dX13_sight_93 : decode cX13_sight 93 = .ok (.iload 6, 2) := by decide +kernel
theorem dX13_sight_95 : decode cX13_sight 95 = .ok (.imul, 1) := by decide +kernel
theorem dX13_sight_96 : decode cX13_sight 96 = .ok (.iadd, 1) := by decide +kernel
theorem dX13_sight_97 : decode cX13_sight 97 = .ok (.istore 7, 2) := by decide +kernel
theorem dX13_sight_99 : decode cX13_sight 99 = .ok (.aload_n 0, 1) := by decide +kernel
theorem dX13_sight_100 : decode cX13_sight 100 = .ok (.getfield 13, 3) := by decide +kernel
theorem dX13_sight_103 : decode cX13_sight 103 = .ok (.iload 7, 2) := by decide +kernel
theorem dX13_sight_105 : decode cX13_sight 105 = .ok (.iload_n 1, 1) := by decide +kernel
theorem dX13_sight_106 : decode cX13_sight 106 = .ok (.iastore, 1) := by decide +kernel
theorem dX13_sight_107 : decode cX13_sight 107 = .ok (.aload_n 0, 1) := by decide +kernel
theorem dX13_sight_108 : decode cX13_sight 108 = .ok (.getfield 13, 3) := by decide +kernel
theorem dX13_sight_111 : decode cX13_sight 111 = .ok (.iload 7, 2) := by decide +kernel
theorem dX13_sight_113 : decode cX13_sight 113 = .ok (.iconst 1, 1) := by decide +kernel
theorem dX13_sight_114 : decode cX13_sight 114 = .ok (.iadd, 1) := by decide +kernel
theorem dX13_sight_115 : decode cX13_sight 115 = .ok (.iload_n 2, 1) := by decide +kernel
theorem dX13_sight_116 : decode cX13_sight 116 = .ok (.iastore, 1) := by decide +kernel
theorem dX13_sight_117 : decode cX13_sight 117 = .ok (.aload_n 0, 1) := by decide +kernel
theorem dX13_sight_118 : decode cX13_sight 118 = .ok (.getfield 13, 3) := by decide +kernel
theorem dX13_sight_121 : decode cX13_sight 121 = .ok (.iload 7, 2) := by decide +kernel
theorem dX13_sight_123 : decode cX13_sight 123 = .ok (.iconst 2, 1) := by decide +kernel
theorem dX13_sight_124 : decode cX13_sight 124 = .ok (.iadd, 1) := by decide +kernel
theorem dX13_sight_125 : decode cX13_sight 125 = .ok (.iload_n 3, 1) := by decide +kernel
theorem dX13_sight_126 : decode cX13_sight 126 = .ok (.iastore, 1) := by decide +kernel
theorem dX13_sight_127 : decode cX13_sight 127 = .ok (.aload_n 0, 1) := by decide +kernel
theorem dX13_sight_128 : decode cX13_sight 128 = .ok (.getfield 13, 3) := by decide +kernel
theorem dX13_sight_131 : decode cX13_sight 131 = .ok (.iload 7, 2) := by decide +kernel
theorem dX13_sight_133 : decode cX13_sight 133 = .ok (.iconst 3, 1) := by decide +kernel
theorem dX13_sight_134 : decode cX13_sight 134 = .ok (.iadd, 1) := by decide +kernel
theorem dX13_sight_135 : decode cX13_sight 135 = .ok (.iload 4, 2) := by decide +kernel
theorem dX13_sight_137 : decode cX13_sight 137 = .ok (.iastore, 1) := by decide +kernel
theorem dX13_sight_138 : decode cX13_sight 138 = .ok (.aload_n 0, 1) := by decide +kernel
theorem dX13_sight_139 : decode cX13_sight 139 = .ok (.getfield 13, 3) := by decide +kernel
theorem dX13_sight_142 : decode cX13_sight 142 = .ok (.iload 7, 2) := by decide +kernel
theorem dX13_sight_144 : decode cX13_sight 144 = .ok (.iconst 4, 1) := by decide +kernel
theorem dX13_sight_145 : decode cX13_sight 145 = .ok (.iadd, 1) := by decide +kernel
theorem dX13_sight_146 : decode cX13_sight 146 = .ok (.iload 5, 2) := by decide +kernel
theorem dX13_sight_148 : decode cX13_sight 148 = .ok (.iastore, 1) := by decide +kernel
theorem dX13_sight_149 : decode cX13_sight 149 = .ok (.aload_n 0, 1) := by decide +kernel
theorem dX13_sight_150 : decode cX13_sight 150 = .ok (.getfield 13, 3) := by decide +kernel
theorem dX13_sight_153 : decode cX13_sight 153 = .ok (.iconst 3, 1) := by decide +kernel
theorem dX13_sight_154 : decode cX13_sight 154 = .ok (.dup2, 1) := by decide +kernel
theorem dX13_sight_155 : decode cX13_sight 155 = .ok (.iaload, 1) := by decide +kernel
theorem dX13_sight_156 : decode cX13_sight 156 = .ok (.iconst 1, 1) := by decide +kernel
theorem dX13_sight_157 : decode cX13_sight 157 = .ok (.iadd, 1) := by decide +kernel
theorem dX13_sight_158 : decode cX13_sight 158 = .ok (.iastore, 1) := by decide +kernel
theorem dX13_sight_159 : decode cX13_sight 159 = .ok (.aload_n 0, 1) := by decide +kernel
theorem dX13_sight_160 : decode cX13_sight 160 = .ok (.iload 6, 2) := by decide +kernel
theorem dX13_sight_162 : decode cX13_sight 162 = .ok (.iconst 1, 1) := by decide +kernel
theorem dX13_sight_163 : decode cX13_sight 163 = .ok (.iadd, 1) := by decide +kernel
theorem dX13_sight_164 : decode cX13_sight 164 = .ok (.invokevirtual 183, 3) := by decide +kernel
theorem dX13_sight_167 : decode cX13_sight 167 = .ok (.ireturn, 1) := by decide +kernel
theorem dX13_sight_83 : decode cX13_sight 83 = .ok (.aload_n 0, 1) := by decide +kernel
theorem dX13_sight_84 : decode cX13_sight 84 = .ok (.bipush (-5), 2) := by decide +kernel
theorem dX13_sight_86 : decode cX13_sight 86 = .ok (.invokevirtual 183, 3) := by decide +kernel
theorem dX13_sight_89 : decode cX13_sight 89 = .ok (.ireturn, 1) := by decide +kernel
set_option maxHeartbeats 4000000 in
set_option maxRecDepth 100000 in
theorem k_X13_sight (l : Launch) (D : va_G) (cy : Nat → ClassId) (ld ad : Nat → Nat) (am : Nat) (hD : mz_D ad am) (Fa : Nat → Int32) (Ga : Nat → Int64) (Ra : Nat → Nat → Int32) (Sa : Nat → Nat → Int64) (p1 : Int32) (p2 : Int32) (p3 : Int32) (p4 : Int32) (p5 : Int32) (hIF : mz_IF true Fa) (hIG : mz_IG Ga) (hIR : mz_IR [] true Ra) : Met l yX13_sight (wl yX13_sight cX13_sight 8 (some .int)) ({ frames := 5, cells := 0, slots := 0, locals := 280 }) (mz_p D cy ld ad am Fa Ga Ra Sa [.ref am, .int p1, .int p2, .int p3, .int p4, .int p5]) (mz_i D cy ad am (fun r F G R S => mz_IF true F ∧ mz_IG G ∧ mz_IR [] true R ∧ (∀ k : Nat, k ∉ ([0, 1] : List Nat) → F k = Fa k) ∧ (∀ k : Nat, k ∉ ([2, 3] : List Nat) → R k = Ra k) ∧ (∀ k : Nat, k ∉ ([] : List Nat) → G k = Ga k) ∧ (-5) ≤ r.toInt ∧ r.toInt ≤ 8)) 0 0 (mz_W ad am) := by
  refine mz_met (y := yX13_sight) (cc := cX13_sight) (maxL := 8) (ret := (some .int)) (av := [.ref am, .int p1, .int p2, .int p3, .int p4, .int p5]) _ (by decide) (Nat.le_of_ble_eq_true rfl) ?_
  intro p e s m args below meth c hx hb hr hml hts htl hown hlocks hK H locs hM hS ls hl
  have hown : s.vm.findClass RX13 = some m.cls := hown
  have hl : lv_has ls 8 [(0, .ref am), (1, .int p1), (2, .int p2), (3, .int p3), (4, .int p4), (5, .int p5)] := hl
  have hr_p1 := tk_rng p1
  have hr_p2 := tk_rng p2
  have hr_p3 := tk_rng p3
  have hr_p4 := tk_rng p4
  have hr_p5 := tk_rng p5
  refine lv_aload_n hx hb dX13_sight_0 rfl (lv_at hl 0 rfl) ?_
  refine lv_iconst (v := 0) hx hb dX13_sight_1 (by decide) ?_
  have hk_0 : (0 : Int32).toInt = 0 := by decide
  refine mz_putI (ty := .int) (x := 0) hx hb htl hown hK hD hM hS 0 (Nat.le_of_ble_eq_true rfl) rfl (htl _ mw_286) (fun _ h9 => h9) rfl (tyX13_ok 0 (by decide)) rfl rfl dX13_sight_2 (fun H locs F hM hS hf9 hj9 => ?_)
  have hIF := hIF.put hf9 hj9 (tk_rng _).1 (tk_rng _).2 (by decide)
  have hFF := mz_frp (K := [0, 1]) (Fa := Fa) hj9 (fun _ _ => rfl) (by decide)
  have hf2 := hf9
  refine lv_iload_n hx hb dX13_sight_5 rfl (lv_at hl 3 rfl) ?_
  obtain ⟨w3, e_w3, h_w3⟩ : ∃ z : Int64, p3.toInt64 = z ∧ z.toInt = p3.toInt := ⟨_, rfl, fl_w _⟩
  refine lv_i2l (v := w3) hx hb dX13_sight_6 e_w3 ?_
  refine lv_lconst (v := 0) hx hb dX13_sight_7 (by decide) ?_
  refine lv_ldc2 hx hb hown (htl _ mw_1494) dX13_sight_8 ?_
  have hk_0 : (0 : Int64).toInt = 0 := by decide
  have hk_11 : (11 : Int64).toInt = 11 := by decide
  refine mz_Sj (As := [.long w3, .long 0, .long 11]) (rest := []) ⟨hx, hb, hml, hown, hts⟩ hK hM hS (k_X13_in l D cy ld ad am hD _ _ _ _ w3 0 11) ⟨callB_of 3 hts (wl_in mw_292) rfl rfl rfl (htl _ mw_5) (htl _ mw_290) hd_yX13_in ⟨(Nat.le_of_ble_eq_true rfl), (Nat.le_of_ble_eq_true rfl)⟩, htl _ mw_291⟩ rfl hl.1 rfl (Nat.le_of_ble_eq_true rfl) dX13_sight_11 ⟨(Nat.le_of_ble_eq_true rfl), (Nat.le_of_ble_eq_true rfl)⟩ (fun v4 H locs hpo hM hS => ?_)
  obtain ⟨hpo5, hpo6, hpo7, hpo8, hpo9, hpo10⟩ := hpo
  have hq_v4 := tk_rng v4
  refine lv_if_eq (tgt := 39) hx hb dX13_sight_14 (by decide) (fun c9 => ?_) (fun c9 => ?_)
  · have hc12 : v4.toInt = 0 := (fi_eq rfl (show (0 : Int32).toInt = 0 by decide)).mp c9
    refine lv_aload_n hx hb dX13_sight_39 rfl (lv_at hl 0 rfl) ?_
    refine lv_iconst (v := (-1)) hx hb dX13_sight_40 (by decide) ?_
    have hk_m1 : ((-1) : Int32).toInt = (-1) := by decide
    refine mz_Vi (As := [.int (-1)]) (rest := []) ⟨hx, hb, hml, hown, hts⟩ hK hM hS (k_X13_tell l D cy ld ad am hD _ _ _ _ (-1) hIF hIG hIR (by omega) (by omega)) ⟨callB_of 1 hts (wl_in mw_296) rfl rfl rfl (htl _ mw_5) (htl _ mw_293) hd_yX13_tell ⟨(Nat.le_of_ble_eq_true rfl), (Nat.le_of_ble_eq_true rfl)⟩, htl _ mw_294, htl _ mw_295⟩ rfl hl.1 rfl (Nat.le_of_ble_eq_true rfl) dX13_sight_41 ⟨(Nat.le_of_ble_eq_true rfl), (Nat.le_of_ble_eq_true rfl)⟩ (fun v13 H locs F G R S hpo hM hS => ?_)
    obtain ⟨hIF, hIG, hIR, hfr9, hrr9, hgr9, hpo14⟩ := hpo
    have hq_v13 := tk_rng v13
    have hFF := mz_fr (K := [0, 1]) (Fa := Fa) hfr9 hFF (by decide)
    have hRR := mz_fr (K := [2, 3]) (Fa := Ra) hrr9 (fun _ _ => rfl) (by decide)
    have hGG := mz_fr (K := []) (Fa := Ga) hgr9 (fun _ _ => rfl) (by decide)
    have hf2 := (hfr9 0 (by decide)).trans hf2
    exact mz_iret (v := v13) hx hb hr rfl hlocks ⟨hIF, hIG, hIR, hFF, hRR, hGG, (by omega), (by omega)⟩ hM hS dX13_sight_44
  · have hc12 : ¬ (v4.toInt = 0) := fun h9 => c9 ((fi_eq rfl (show (0 : Int32).toInt = 0 by decide)).mpr h9)
    refine lv_iload hx hb dX13_sight_17 (lv_at hl 4 rfl) ?_
    obtain ⟨w16, e_w16, h_w16⟩ : ∃ z : Int64, p4.toInt64 = z ∧ z.toInt = p4.toInt := ⟨_, rfl, fl_w _⟩
    refine lv_i2l (v := w16) hx hb dX13_sight_19 e_w16 ?_
    refine lv_lconst (v := 0) hx hb dX13_sight_20 (by decide) ?_
    refine lv_lconst (v := 1) hx hb dX13_sight_21 (by decide) ?_
    have hk_0 : (0 : Int64).toInt = 0 := by decide
    have hk_1 : (1 : Int64).toInt = 1 := by decide
    refine mz_Sj (As := [.long w16, .long 0, .long 1]) (rest := []) ⟨hx, hb, hml, hown, hts⟩ hK hM hS (k_X13_in l D cy ld ad am hD _ _ _ _ w16 0 1) ⟨callB_of 3 hts (wl_in mw_292) rfl rfl rfl (htl _ mw_5) (htl _ mw_290) hd_yX13_in ⟨(Nat.le_of_ble_eq_true rfl), (Nat.le_of_ble_eq_true rfl)⟩, htl _ mw_291⟩ rfl hl.1 rfl (Nat.le_of_ble_eq_true rfl) dX13_sight_22 ⟨(Nat.le_of_ble_eq_true rfl), (Nat.le_of_ble_eq_true rfl)⟩ (fun v17 H locs hpo hM hS => ?_)
    obtain ⟨hpo18, hpo19, hpo20, hpo21, hpo22, hpo23⟩ := hpo
    have hq_v17 := tk_rng v17
    refine lv_if_eq (tgt := 39) hx hb dX13_sight_25 (by decide) (fun c9 => ?_) (fun c9 => ?_)
    · have hc25 : v17.toInt = 0 := (fi_eq rfl (show (0 : Int32).toInt = 0 by decide)).mp c9
      refine lv_aload_n hx hb dX13_sight_39 rfl (lv_at hl 0 rfl) ?_
      refine lv_iconst (v := (-1)) hx hb dX13_sight_40 (by decide) ?_
      have hk_m1 : ((-1) : Int32).toInt = (-1) := by decide
      refine mz_Vi (As := [.int (-1)]) (rest := []) ⟨hx, hb, hml, hown, hts⟩ hK hM hS (k_X13_tell l D cy ld ad am hD _ _ _ _ (-1) hIF hIG hIR (by omega) (by omega)) ⟨callB_of 1 hts (wl_in mw_296) rfl rfl rfl (htl _ mw_5) (htl _ mw_293) hd_yX13_tell ⟨(Nat.le_of_ble_eq_true rfl), (Nat.le_of_ble_eq_true rfl)⟩, htl _ mw_294, htl _ mw_295⟩ rfl hl.1 rfl (Nat.le_of_ble_eq_true rfl) dX13_sight_41 ⟨(Nat.le_of_ble_eq_true rfl), (Nat.le_of_ble_eq_true rfl)⟩ (fun v26 H locs F G R S hpo hM hS => ?_)
      obtain ⟨hIF, hIG, hIR, hfr9, hrr9, hgr9, hpo27⟩ := hpo
      have hq_v26 := tk_rng v26
      have hFF := mz_fr (K := [0, 1]) (Fa := Fa) hfr9 hFF (by decide)
      have hRR := mz_fr (K := [2, 3]) (Fa := Ra) hrr9 (fun _ _ => rfl) (by decide)
      have hGG := mz_fr (K := []) (Fa := Ga) hgr9 (fun _ _ => rfl) (by decide)
      have hf2 := (hfr9 0 (by decide)).trans hf2
      exact mz_iret (v := v26) hx hb hr rfl hlocks ⟨hIF, hIG, hIR, hFF, hRR, hGG, (by omega), (by omega)⟩ hM hS dX13_sight_44
    · have hc25 : ¬ (v17.toInt = 0) := fun h9 => c9 ((fi_eq rfl (show (0 : Int32).toInt = 0 by decide)).mpr h9)
      refine lv_iload hx hb dX13_sight_28 (lv_at hl 5 rfl) ?_
      obtain ⟨w29, e_w29, h_w29⟩ : ∃ z : Int64, p5.toInt64 = z ∧ z.toInt = p5.toInt := ⟨_, rfl, fl_w _⟩
      refine lv_i2l (v := w29) hx hb dX13_sight_30 e_w29 ?_
      refine lv_lconst (v := 0) hx hb dX13_sight_31 (by decide) ?_
      refine lv_lconst (v := 1) hx hb dX13_sight_32 (by decide) ?_
      have hk_0 : (0 : Int64).toInt = 0 := by decide
      have hk_1 : (1 : Int64).toInt = 1 := by decide
      refine mz_Sj (As := [.long w29, .long 0, .long 1]) (rest := []) ⟨hx, hb, hml, hown, hts⟩ hK hM hS (k_X13_in l D cy ld ad am hD _ _ _ _ w29 0 1) ⟨callB_of 3 hts (wl_in mw_292) rfl rfl rfl (htl _ mw_5) (htl _ mw_290) hd_yX13_in ⟨(Nat.le_of_ble_eq_true rfl), (Nat.le_of_ble_eq_true rfl)⟩, htl _ mw_291⟩ rfl hl.1 rfl (Nat.le_of_ble_eq_true rfl) dX13_sight_33 ⟨(Nat.le_of_ble_eq_true rfl), (Nat.le_of_ble_eq_true rfl)⟩ (fun v30 H locs hpo hM hS => ?_)
      obtain ⟨hpo31, hpo32, hpo33, hpo34, hpo35, hpo36⟩ := hpo
      have hq_v30 := tk_rng v30
      refine lv_if_ne (tgt := 45) hx hb dX13_sight_36 (by decide) (fun c9 => ?_) (fun c9 => ?_)
      · have hc38 : ¬ (v30.toInt = 0) := fun h9 => c9 ((fi_eq rfl (show (0 : Int32).toInt = 0 by decide)).mpr h9)
        refine lv_aload_n hx hb dX13_sight_45 rfl (lv_at hl 0 rfl) ?_
        refine lv_iload_n hx hb dX13_sight_46 rfl (lv_at hl 1 rfl) ?_
        refine mz_Vj (As := [.int p1]) (rest := []) ⟨hx, hb, hml, hown, hts⟩ hK hM hS (k_X13_isVerse l D cy ld ad am hD _ _ _ _ p1 hIF hIG hIR) ⟨callB_of 1 hts (wl_in mw_360) rfl rfl rfl (htl _ mw_5) (htl _ mw_357) hd_yX13_isVerse ⟨(Nat.le_of_ble_eq_true rfl), (Nat.le_of_ble_eq_true rfl)⟩, htl _ mw_358, htl _ mw_359⟩ rfl hl.1 rfl (Nat.le_of_ble_eq_true rfl) dX13_sight_47 ⟨(Nat.le_of_ble_eq_true rfl), (Nat.le_of_ble_eq_true rfl)⟩ (fun v39 H locs hpo hM hS => ?_)
        obtain ⟨hpo40, hpo41, hpo42, hpo43, hpo44⟩ := hpo
        have hq_v39 := tk_rng v39
        refine lv_if_eq (tgt := 61) hx hb dX13_sight_50 (by decide) (fun c9 => ?_) (fun c9 => ?_)
        · have hc46 : v39.toInt = 0 := (fi_eq rfl (show (0 : Int32).toInt = 0 by decide)).mp c9
          refine lv_aload_n hx hb dX13_sight_61 rfl (lv_at hl 0 rfl) ?_
          refine lv_bipush (v := (-2)) hx hb dX13_sight_62 (by decide) ?_
          have hk_m2 : ((-2) : Int32).toInt = (-2) := by decide
          refine mz_Vi (As := [.int (-2)]) (rest := []) ⟨hx, hb, hml, hown, hts⟩ hK hM hS (k_X13_tell l D cy ld ad am hD _ _ _ _ (-2) hIF hIG hIR (by omega) (by omega)) ⟨callB_of 1 hts (wl_in mw_296) rfl rfl rfl (htl _ mw_5) (htl _ mw_293) hd_yX13_tell ⟨(Nat.le_of_ble_eq_true rfl), (Nat.le_of_ble_eq_true rfl)⟩, htl _ mw_294, htl _ mw_295⟩ rfl hl.1 rfl (Nat.le_of_ble_eq_true rfl) dX13_sight_64 ⟨(Nat.le_of_ble_eq_true rfl), (Nat.le_of_ble_eq_true rfl)⟩ (fun v47 H locs F G R S hpo hM hS => ?_)
          obtain ⟨hIF, hIG, hIR, hfr9, hrr9, hgr9, hpo48⟩ := hpo
          have hq_v47 := tk_rng v47
          have hFF := mz_fr (K := [0, 1]) (Fa := Fa) hfr9 hFF (by decide)
          have hRR := mz_fr (K := [2, 3]) (Fa := Ra) hrr9 (fun _ _ => rfl) (by decide)
          have hGG := mz_fr (K := []) (Fa := Ga) hgr9 (fun _ _ => rfl) (by decide)
          have hf2 := (hfr9 0 (by decide)).trans hf2
          exact mz_iret (v := v47) hx hb hr rfl hlocks ⟨hIF, hIG, hIR, hFF, hRR, hGG, (by omega), (by omega)⟩ hM hS dX13_sight_67
        · have hc46 : ¬ (v39.toInt = 0) := fun h9 => c9 ((fi_eq rfl (show (0 : Int32).toInt = 0 by decide)).mpr h9)
          refine lv_aload_n hx hb dX13_sight_53 rfl (lv_at hl 0 rfl) ?_
          refine lv_iload_n hx hb dX13_sight_54 rfl (lv_at hl 2 rfl) ?_
          refine mz_Vj (As := [.int p2]) (rest := []) ⟨hx, hb, hml, hown, hts⟩ hK hM hS (k_X13_isSinger l D cy ld ad am hD _ _ _ _ p2 hIF hIG hIR) ⟨callB_of 1 hts (wl_in mw_320) rfl rfl rfl (htl _ mw_5) (htl _ mw_317) hd_yX13_isSinger ⟨(Nat.le_of_ble_eq_true rfl), (Nat.le_of_ble_eq_true rfl)⟩, htl _ mw_318, htl _ mw_319⟩ rfl hl.1 rfl (Nat.le_of_ble_eq_true rfl) dX13_sight_55 ⟨(Nat.le_of_ble_eq_true rfl), (Nat.le_of_ble_eq_true rfl)⟩ (fun v50 H locs hpo hM hS => ?_)
          obtain ⟨hpo51, hpo52, hpo53, hpo54, hpo55⟩ := hpo
          have hq_v50 := tk_rng v50
          refine lv_if_ne (tgt := 68) hx hb dX13_sight_58 (by decide) (fun c9 => ?_) (fun c9 => ?_)
          · have hc57 : ¬ (v50.toInt = 0) := fun h9 => c9 ((fi_eq rfl (show (0 : Int32).toInt = 0 by decide)).mpr h9)
            refine lv_aload_n hx hb dX13_sight_68 rfl (lv_at hl 0 rfl) ?_
            refine mz_getR hx hb htl hown hK hM 3 (Nat.le_of_ble_eq_true rfl) (Nat.le_of_ble_eq_true rfl) (htl _ mw_188) (fun _ h9 => h9) dX13_sight_69 ?_
            refine lv_iconst (v := 3) hx hb dX13_sight_72 (by decide) ?_
            refine mz_iald hx hb hK hM 3 (Nat.le_of_ble_eq_true rfl) rfl (nn := 5560) rfl (I := 3) (by decide) (by decide) (by decide) dX13_sight_73 (fun v59 hf58 => ?_)
            have hf58 : Ra 3 3 = v59 := hf58
            have hq_v59 := tk_rng v59
            have hr_v59 : 0 ≤ v59.toInt ∧ v59.toInt ≤ 8 := by have h9 := mz_r3c 3 (hIR.at 3) hf58 (by decide); unfold mE at h9; omega
            refine lv_istore (lv' := [(6, .int v59), (0, .ref am), (1, .int p1), (2, .int p2), (3, .int p3), (4, .int p4), (5, .int p5)]) hx hb dX13_sight_74 hl (by decide) rfl (fun ls hl => ?_)
            refine lv_iload hx hb dX13_sight_76 (lv_at hl 0 rfl) ?_
            refine lv_bipush (v := 8) hx hb dX13_sight_78 (by decide) ?_
            refine lv_icmp_ne (tgt := 90) hx hb dX13_sight_80 (by decide) (fun c9 => ?_) (fun c9 => ?_)
            · have hc60 : ¬ (v59.toInt = 8) := fun h9 => c9 ((fi_eq rfl (show (8 : Int32).toInt = 8 by decide)).mpr h9)
              refine lv_bipush (v := 116) hx hb dX13_sight_90 (by decide) ?_
              refine lv_iconst (v := 5) hx hb dX13_sight_92 (by decide) ?_
              refine lv_iload hx hb dX13_sight_93 (lv_at hl 0 rfl) ?_
              refine lv_imul hx hb dX13_sight_95 ?_
              refine tk_mul (show (5 : Int32).toInt = 5 by decide) rfl (by omega) (by omega) (fun v61 h_v61 => ?_)
              refine lv_iadd hx hb dX13_sight_96 ?_
              refine tk_add (show (116 : Int32).toInt = 116 by decide) rfl (by omega) (by omega) (fun v62 h_v62 => ?_)
              refine lv_istore (lv' := [(7, .int v62), (6, .int v59), (0, .ref am), (1, .int p1), (2, .int p2), (3, .int p3), (4, .int p4), (5, .int p5)]) hx hb dX13_sight_97 hl (by decide) rfl (fun ls hl => ?_)
              refine lv_aload_n hx hb dX13_sight_99 rfl (lv_at hl 2 rfl) ?_
              refine mz_getR hx hb htl hown hK hM 3 (Nat.le_of_ble_eq_true rfl) (Nat.le_of_ble_eq_true rfl) (htl _ mw_188) (fun _ h9 => h9) dX13_sight_100 ?_
              refine lv_iload hx hb dX13_sight_103 (lv_at hl 0 rfl) ?_
              refine lv_iload_n hx hb dX13_sight_105 rfl (lv_at hl 3 rfl) ?_
              refine mz_iast (x := p1) hx hb hK hD hM hS 3 (Nat.le_of_ble_eq_true rfl) rfl (nn := 5560) rfl rfl (by omega) (by omega) dX13_sight_106 (fun H locs R hM hS hw9 hj9 => ?_)
              have hIR := hIR.put hw9 hj9 (mz_r3 (hIR.at 3) (I := v62.toInt) rfl (by omega) (by omega) (fun h9 => by first | (cases h9; done) | omega) (by unfold mE; omega))
              have hRR := mz_frp (K := [2, 3]) (Fa := Ra) hj9 (fun _ _ => rfl) (by decide)
              have hf58 : R 3 3 = _ := (congrFun hw9 3).trans ((pk_un (fun h9 => by have h8 := tk_nat (i := v62) rfl (by omega); omega)).trans hf58)
              refine lv_aload_n hx hb dX13_sight_107 rfl (lv_at hl 2 rfl) ?_
              refine mz_getR hx hb htl hown hK hM 3 (Nat.le_of_ble_eq_true rfl) (Nat.le_of_ble_eq_true rfl) (htl _ mw_188) (fun _ h9 => h9) dX13_sight_108 ?_
              refine lv_iload hx hb dX13_sight_111 (lv_at hl 0 rfl) ?_
              refine lv_iconst (v := 1) hx hb dX13_sight_113 (by decide) ?_
              refine lv_iadd hx hb dX13_sight_114 ?_
              refine tk_add rfl (show (1 : Int32).toInt = 1 by decide) (by omega) (by omega) (fun v64 h_v64 => ?_)
              refine lv_iload_n hx hb dX13_sight_115 rfl (lv_at hl 4 rfl) ?_
              refine mz_iast (x := p2) hx hb hK hD hM hS 3 (Nat.le_of_ble_eq_true rfl) rfl (nn := 5560) rfl rfl (by omega) (by omega) dX13_sight_116 (fun H locs R hM hS hw9 hj9 => ?_)
              have hIR := hIR.put hw9 hj9 (mz_r3 (hIR.at 3) (I := v64.toInt) rfl (by omega) (by omega) (fun h9 => by first | (cases h9; done) | omega) (by unfold mE; omega))
              have hRR := mz_frp (K := [2, 3]) (Fa := Ra) hj9 hRR (by decide)
              have hf58 : R 3 3 = _ := (congrFun hw9 3).trans ((pk_un (fun h9 => by have h8 := tk_nat (i := v64) rfl (by omega); omega)).trans hf58)
              refine lv_aload_n hx hb dX13_sight_117 rfl (lv_at hl 2 rfl) ?_
              refine mz_getR hx hb htl hown hK hM 3 (Nat.le_of_ble_eq_true rfl) (Nat.le_of_ble_eq_true rfl) (htl _ mw_188) (fun _ h9 => h9) dX13_sight_118 ?_
              refine lv_iload hx hb dX13_sight_121 (lv_at hl 0 rfl) ?_
              refine lv_iconst (v := 2) hx hb dX13_sight_123 (by decide) ?_
              refine lv_iadd hx hb dX13_sight_124 ?_
              refine tk_add rfl (show (2 : Int32).toInt = 2 by decide) (by omega) (by omega) (fun v66 h_v66 => ?_)
              refine lv_iload_n hx hb dX13_sight_125 rfl (lv_at hl 5 rfl) ?_
              refine mz_iast (x := p3) hx hb hK hD hM hS 3 (Nat.le_of_ble_eq_true rfl) rfl (nn := 5560) rfl rfl (by omega) (by omega) dX13_sight_126 (fun H locs R hM hS hw9 hj9 => ?_)
              have hIR := hIR.put hw9 hj9 (mz_r3 (hIR.at 3) (I := v66.toInt) rfl (by omega) (by omega) (fun h9 => by first | (cases h9; done) | omega) (by unfold mE; omega))
              have hRR := mz_frp (K := [2, 3]) (Fa := Ra) hj9 hRR (by decide)
              have hf58 : R 3 3 = _ := (congrFun hw9 3).trans ((pk_un (fun h9 => by have h8 := tk_nat (i := v66) rfl (by omega); omega)).trans hf58)
              refine lv_aload_n hx hb dX13_sight_127 rfl (lv_at hl 2 rfl) ?_
              refine mz_getR hx hb htl hown hK hM 3 (Nat.le_of_ble_eq_true rfl) (Nat.le_of_ble_eq_true rfl) (htl _ mw_188) (fun _ h9 => h9) dX13_sight_128 ?_
              refine lv_iload hx hb dX13_sight_131 (lv_at hl 0 rfl) ?_
              refine lv_iconst (v := 3) hx hb dX13_sight_133 (by decide) ?_
              refine lv_iadd hx hb dX13_sight_134 ?_
              refine tk_add rfl (show (3 : Int32).toInt = 3 by decide) (by omega) (by omega) (fun v68 h_v68 => ?_)
              refine lv_iload hx hb dX13_sight_135 (lv_at hl 6 rfl) ?_
              refine mz_iast (x := p4) hx hb hK hD hM hS 3 (Nat.le_of_ble_eq_true rfl) rfl (nn := 5560) rfl rfl (by omega) (by omega) dX13_sight_137 (fun H locs R hM hS hw9 hj9 => ?_)
              have hIR := hIR.put hw9 hj9 (mz_r3 (hIR.at 3) (I := v68.toInt) rfl (by omega) (by omega) (fun h9 => by first | (cases h9; done) | omega) (by unfold mE; omega))
              have hRR := mz_frp (K := [2, 3]) (Fa := Ra) hj9 hRR (by decide)
              have hf58 : R 3 3 = _ := (congrFun hw9 3).trans ((pk_un (fun h9 => by have h8 := tk_nat (i := v68) rfl (by omega); omega)).trans hf58)
              refine lv_aload_n hx hb dX13_sight_138 rfl (lv_at hl 2 rfl) ?_
              refine mz_getR hx hb htl hown hK hM 3 (Nat.le_of_ble_eq_true rfl) (Nat.le_of_ble_eq_true rfl) (htl _ mw_188) (fun _ h9 => h9) dX13_sight_139 ?_
              refine lv_iload hx hb dX13_sight_142 (lv_at hl 0 rfl) ?_
              refine lv_iconst (v := 4) hx hb dX13_sight_144 (by decide) ?_
              refine lv_iadd hx hb dX13_sight_145 ?_
              refine tk_add rfl (show (4 : Int32).toInt = 4 by decide) (by omega) (by omega) (fun v70 h_v70 => ?_)
              refine lv_iload hx hb dX13_sight_146 (lv_at hl 7 rfl) ?_
              refine mz_iast (x := p5) hx hb hK hD hM hS 3 (Nat.le_of_ble_eq_true rfl) rfl (nn := 5560) rfl rfl (by omega) (by omega) dX13_sight_148 (fun H locs R hM hS hw9 hj9 => ?_)
              have hIR := hIR.put hw9 hj9 (mz_r3 (hIR.at 3) (I := v70.toInt) rfl (by omega) (by omega) (fun h9 => by first | (cases h9; done) | omega) (by unfold mE; omega))
              have hRR := mz_frp (K := [2, 3]) (Fa := Ra) hj9 hRR (by decide)
              have hf58 : R 3 3 = _ := (congrFun hw9 3).trans ((pk_un (fun h9 => by have h8 := tk_nat (i := v70) rfl (by omega); omega)).trans hf58)
              refine lv_aload_n hx hb dX13_sight_149 rfl (lv_at hl 2 rfl) ?_
              refine mz_getR hx hb htl hown hK hM 3 (Nat.le_of_ble_eq_true rfl) (Nat.le_of_ble_eq_true rfl) (htl _ mw_188) (fun _ h9 => h9) dX13_sight_150 ?_
              refine lv_iconst (v := 3) hx hb dX13_sight_153 (by decide) ?_
              refine lv_dup2_11 hx hb dX13_sight_154 rfl rfl ?_
              refine mz_iald hx hb hK hM 3 (Nat.le_of_ble_eq_true rfl) rfl (nn := 5560) rfl (I := 3) (by decide) (by decide) (by decide) dX13_sight_155 (fun v9 e9 => ?_)
              refine fx_ti (v := v59) (e9.symm.trans (show R 3 (3 : Int32).toNatClampNeg = _ from hf58)) ?_
              refine lv_iconst (v := 1) hx hb dX13_sight_156 (by decide) ?_
              refine lv_iadd hx hb dX13_sight_157 ?_
              refine tk_add rfl (show (1 : Int32).toInt = 1 by decide) (by omega) (by omega) (fun v72 h_v72 => ?_)
              have hk_3 : (3 : Int32).toInt = 3 := by decide
              refine mz_iast (x := v72) hx hb hK hD hM hS 3 (Nat.le_of_ble_eq_true rfl) rfl (nn := 5560) rfl (I := 3) (by decide) (by decide) (by decide) dX13_sight_158 (fun H locs R hM hS hw9 hj9 => ?_)
              have hIR := hIR.put hw9 hj9 (mz_r3 (hIR.at 3) (I := 3) (by decide) (by omega) (by omega) (fun h9 => by first | (cases h9; done) | omega) (by unfold mE; omega))
              have hRR := mz_frp (K := [2, 3]) (Fa := Ra) hj9 hRR (by decide)
              have hf74 : R 3 3 = v72 := (congrFun hw9 3).trans pk_us
              refine lv_aload_n hx hb dX13_sight_159 rfl (lv_at hl 2 rfl) ?_
              refine lv_iload hx hb dX13_sight_160 (lv_at hl 1 rfl) ?_
              refine lv_iconst (v := 1) hx hb dX13_sight_162 (by decide) ?_
              refine lv_iadd hx hb dX13_sight_163 ?_
              refine tk_add rfl (show (1 : Int32).toInt = 1 by decide) (by omega) (by omega) (fun v75 h_v75 => ?_)
              refine mz_Vi (As := [.int v75]) (rest := []) ⟨hx, hb, hml, hown, hts⟩ hK hM hS (k_X13_tell l D cy ld ad am hD _ _ _ _ v75 hIF hIG hIR (by omega) (by omega)) ⟨callB_of 1 hts (wl_in mw_296) rfl rfl rfl (htl _ mw_5) (htl _ mw_293) hd_yX13_tell ⟨(Nat.le_of_ble_eq_true rfl), (Nat.le_of_ble_eq_true rfl)⟩, htl _ mw_294, htl _ mw_295⟩ rfl hl.1 rfl (Nat.le_of_ble_eq_true rfl) dX13_sight_164 ⟨(Nat.le_of_ble_eq_true rfl), (Nat.le_of_ble_eq_true rfl)⟩ (fun v76 H locs F G R S hpo hM hS => ?_)
              obtain ⟨hIF, hIG, hIR, hfr9, hrr9, hgr9, hpo77⟩ := hpo
              have hq_v76 := tk_rng v76
              have hFF := mz_fr (K := [0, 1]) (Fa := Fa) hfr9 hFF (by decide)
              have hRR := mz_fr (K := [2, 3]) (Fa := Ra) hrr9 hRR (by decide)
              have hGG := mz_fr (K := []) (Fa := Ga) hgr9 (fun _ _ => rfl) (by decide)
              have hf2 := (hfr9 0 (by decide)).trans hf2
              have hf74 : R 3 3 = _ := (congrFun (hrr9 3 (by decide)) 3).trans hf74
              exact mz_iret (v := v76) hx hb hr rfl hlocks ⟨hIF, hIG, hIR, hFF, hRR, hGG, (by omega), (by omega)⟩ hM hS dX13_sight_167
            · have hc60 : v59.toInt = 8 := (fi_eq rfl (show (8 : Int32).toInt = 8 by decide)).mp c9
              refine lv_aload_n hx hb dX13_sight_83 rfl (lv_at hl 1 rfl) ?_
              refine lv_bipush (v := (-5)) hx hb dX13_sight_84 (by decide) ?_
              have hk_m5 : ((-5) : Int32).toInt = (-5) := by decide
              refine mz_Vi (As := [.int (-5)]) (rest := []) ⟨hx, hb, hml, hown, hts⟩ hK hM hS (k_X13_tell l D cy ld ad am hD _ _ _ _ (-5) hIF hIG hIR (by omega) (by omega)) ⟨callB_of 1 hts (wl_in mw_296) rfl rfl rfl (htl _ mw_5) (htl _ mw_293) hd_yX13_tell ⟨(Nat.le_of_ble_eq_true rfl), (Nat.le_of_ble_eq_true rfl)⟩, htl _ mw_294, htl _ mw_295⟩ rfl hl.1 rfl (Nat.le_of_ble_eq_true rfl) dX13_sight_86 ⟨(Nat.le_of_ble_eq_true rfl), (Nat.le_of_ble_eq_true rfl)⟩ (fun v79 H locs F G R S hpo hM hS => ?_)
              obtain ⟨hIF, hIG, hIR, hfr9, hrr9, hgr9, hpo80⟩ := hpo
              have hq_v79 := tk_rng v79
              have hFF := mz_fr (K := [0, 1]) (Fa := Fa) hfr9 hFF (by decide)
              have hRR := mz_fr (K := [2, 3]) (Fa := Ra) hrr9 (fun _ _ => rfl) (by decide)
              have hGG := mz_fr (K := []) (Fa := Ga) hgr9 (fun _ _ => rfl) (by decide)
              have hf2 := (hfr9 0 (by decide)).trans hf2
              have hf58 : R 3 3 = _ := (congrFun (hrr9 3 (by decide)) 3).trans hf58
              exact mz_iret (v := v79) hx hb hr rfl hlocks ⟨hIF, hIG, hIR, hFF, hRR, hGG, (by omega), (by omega)⟩ hM hS dX13_sight_89
          · have hc57 : v50.toInt = 0 := (fi_eq rfl (show (0 : Int32).toInt = 0 by decide)).mp c9
            refine lv_aload_n hx hb dX13_sight_61 rfl (lv_at hl 0 rfl) ?_
            refine lv_bipush (v := (-2)) hx hb dX13_sight_62 (by decide) ?_
            have hk_m2 : ((-2) : Int32).toInt = (-2) := by decide
            refine mz_Vi (As := [.int (-2)]) (rest := []) ⟨hx, hb, hml, hown, hts⟩ hK hM hS (k_X13_tell l D cy ld ad am hD _ _ _ _ (-2) hIF hIG hIR (by omega) (by omega)) ⟨callB_of 1 hts (wl_in mw_296) rfl rfl rfl (htl _ mw_5) (htl _ mw_293) hd_yX13_tell ⟨(Nat.le_of_ble_eq_true rfl), (Nat.le_of_ble_eq_true rfl)⟩, htl _ mw_294, htl _ mw_295⟩ rfl hl.1 rfl (Nat.le_of_ble_eq_true rfl) dX13_sight_64 ⟨(Nat.le_of_ble_eq_true rfl), (Nat.le_of_ble_eq_true rfl)⟩ (fun v82 H locs F G R S hpo hM hS => ?_)
            obtain ⟨hIF, hIG, hIR, hfr9, hrr9, hgr9, hpo83⟩ := hpo
            have hq_v82 := tk_rng v82
            have hFF := mz_fr (K := [0, 1]) (Fa := Fa) hfr9 hFF (by decide)
            have hRR := mz_fr (K := [2, 3]) (Fa := Ra) hrr9 (fun _ _ => rfl) (by decide)
            have hGG := mz_fr (K := []) (Fa := Ga) hgr9 (fun _ _ => rfl) (by decide)
            have hf2 := (hfr9 0 (by decide)).trans hf2
            exact mz_iret (v := v82) hx hb hr rfl hlocks ⟨hIF, hIG, hIR, hFF, hRR, hGG, (by omega), (by omega)⟩ hM hS dX13_sight_67
      · have hc38 : v30.toInt = 0 := (fi_eq rfl (show (0 : Int32).toInt = 0 by decide)).mp c9
        refine lv_aload_n hx hb dX13_sight_39 rfl (lv_at hl 0 rfl) ?_
        refine lv_iconst (v := (-1)) hx hb dX13_sight_40 (by decide) ?_
        have hk_m1 : ((-1) : Int32).toInt = (-1) := by decide
        refine mz_Vi (As := [.int (-1)]) (rest := []) ⟨hx, hb, hml, hown, hts⟩ hK hM hS (k_X13_tell l D cy ld ad am hD _ _ _ _ (-1) hIF hIG hIR (by omega) (by omega)) ⟨callB_of 1 hts (wl_in mw_296) rfl rfl rfl (htl _ mw_5) (htl _ mw_293) hd_yX13_tell ⟨(Nat.le_of_ble_eq_true rfl), (Nat.le_of_ble_eq_true rfl)⟩, htl _ mw_294, htl _ mw_295⟩ rfl hl.1 rfl (Nat.le_of_ble_eq_true rfl) dX13_sight_41 ⟨(Nat.le_of_ble_eq_true rfl), (Nat.le_of_ble_eq_true rfl)⟩ (fun v85 H locs F G R S hpo hM hS => ?_)
        obtain ⟨hIF, hIG, hIR, hfr9, hrr9, hgr9, hpo86⟩ := hpo
        have hq_v85 := tk_rng v85
        have hFF := mz_fr (K := [0, 1]) (Fa := Fa) hfr9 hFF (by decide)
        have hRR := mz_fr (K := [2, 3]) (Fa := Ra) hrr9 (fun _ _ => rfl) (by decide)
        have hGG := mz_fr (K := []) (Fa := Ga) hgr9 (fun _ _ => rfl) (by decide)
        have hf2 := (hfr9 0 (by decide)).trans hf2
        exact mz_iret (v := v85) hx hb hr rfl hlocks ⟨hIF, hIG, hIR, hFF, hRR, hGG, (by omega), (by omega)⟩ hM hS dX13_sight_44
theorem dX13_forget_0 : decode cX13_forget 0 = .ok (.aload_n 0, 1) := by decide +kernel
theorem dX13_forget_1 : decode cX13_forget 1 = .ok (.iconst 0, 1) := by decide +kernel
theorem dX13_forget_2 : decode cX13_forget 2 = .ok (.putfield 170, 3) := by decide +kernel
theorem dX13_forget_5 : decode cX13_forget 5 = .ok (.aload_n 0, 1) := by decide +kernel
theorem dX13_forget_6 : decode cX13_forget 6 = .ok (.getfield 13, 3) := by decide +kernel
theorem dX13_forget_9 : decode cX13_forget 9 = .ok (.iconst 3, 1) := by decide +kernel
theorem dX13_forget_10 : decode cX13_forget 10 = .ok (.iaload, 1) := by decide +kernel
theorem dX13_forget_11 : decode cX13_forget 11 = .ok (.istore_n 1, 1) := by decide +kernel
theorem dX13_forget_12 : decode cX13_forget 12 = .ok (.aload_n 0, 1) := by decide +kernel
theorem dX13_forget_13 : decode cX13_forget 13 = .ok (.getfield 13, 3) := by decide +kernel
theorem dX13_forget_16 : decode cX13_forget 16 = .ok (.iconst 3, 1) := by decide +kernel
theorem dX13_forget_17 : decode cX13_forget 17 = .ok (.iconst 0, 1) := by decide +kernel
theorem dX13_forget_18 : decode cX13_forget 18 = .ok (.iastore, 1) := by decide +kernel
theorem dX13_forget_19 : decode cX13_forget 19 = .ok (.iload_n 1, 1) := by decide +kernel
theorem dX13_forget_20 : decode cX13_forget 20 = .ok (.ireturn, 1) := by decide +kernel
set_option maxHeartbeats 4000000 in
set_option maxRecDepth 100000 in
theorem k_X13_forget (l : Launch) (D : va_G) (cy : Nat → ClassId) (ld ad : Nat → Nat) (am : Nat) (hD : mz_D ad am) (Fa : Nat → Int32) (Ga : Nat → Int64) (Ra : Nat → Nat → Int32) (Sa : Nat → Nat → Int64) (hIF : mz_IF true Fa) (hIG : mz_IG Ga) (hIR : mz_IR [] true Ra) : Met l yX13_forget (wl yX13_forget cX13_forget 2 (some .int)) ({ frames := 3, cells := 0, slots := 0, locals := 140 }) (mz_p D cy ld ad am Fa Ga Ra Sa [.ref am]) (mz_i D cy ad am (fun r F G R S => mz_IF true F ∧ mz_IG G ∧ mz_IR [] true R ∧ (∀ k : Nat, k ∉ ([0] : List Nat) → F k = Fa k) ∧ (∀ k : Nat, k ∉ ([3] : List Nat) → R k = Ra k) ∧ (∀ k : Nat, k ∉ ([] : List Nat) → G k = Ga k) ∧ 0 ≤ r.toInt ∧ r.toInt ≤ 8)) 0 0 (mz_W ad am) := by
  refine mz_met (y := yX13_forget) (cc := cX13_forget) (maxL := 2) (ret := (some .int)) (av := [.ref am]) _ (by decide) (Nat.le_of_ble_eq_true rfl) ?_
  intro p e s m args below meth c hx hb hr hml hts htl hown hlocks hK H locs hM hS ls hl
  have hown : s.vm.findClass RX13 = some m.cls := hown
  have hl : lv_has ls 2 [(0, .ref am)] := hl
  refine lv_aload_n hx hb dX13_forget_0 rfl (lv_at hl 0 rfl) ?_
  refine lv_iconst (v := 0) hx hb dX13_forget_1 (by decide) ?_
  have hk_0 : (0 : Int32).toInt = 0 := by decide
  refine mz_putI (ty := .int) (x := 0) hx hb htl hown hK hD hM hS 0 (Nat.le_of_ble_eq_true rfl) rfl (htl _ mw_286) (fun _ h9 => h9) rfl (tyX13_ok 0 (by decide)) rfl rfl dX13_forget_2 (fun H locs F hM hS hf9 hj9 => ?_)
  have hIF := hIF.put hf9 hj9 (tk_rng _).1 (tk_rng _).2 (by decide)
  have hFF := mz_frp (K := [0]) (Fa := Fa) hj9 (fun _ _ => rfl) (by decide)
  have hf2 := hf9
  refine lv_aload_n hx hb dX13_forget_5 rfl (lv_at hl 0 rfl) ?_
  refine mz_getR hx hb htl hown hK hM 3 (Nat.le_of_ble_eq_true rfl) (Nat.le_of_ble_eq_true rfl) (htl _ mw_188) (fun _ h9 => h9) dX13_forget_6 ?_
  refine lv_iconst (v := 3) hx hb dX13_forget_9 (by decide) ?_
  refine mz_iald hx hb hK hM 3 (Nat.le_of_ble_eq_true rfl) rfl (nn := 5560) rfl (I := 3) (by decide) (by decide) (by decide) dX13_forget_10 (fun v4 hf3 => ?_)
  have hf3 : Ra 3 3 = v4 := hf3
  have hq_v4 := tk_rng v4
  have hr_v4 : 0 ≤ v4.toInt ∧ v4.toInt ≤ 8 := by have h9 := mz_r3c 3 (hIR.at 3) hf3 (by decide); unfold mE at h9; omega
  refine lv_istore_n (lv' := [(1, .int v4), (0, .ref am)]) hx hb dX13_forget_11 rfl hl (by decide) rfl (fun ls hl => ?_)
  refine lv_aload_n hx hb dX13_forget_12 rfl (lv_at hl 1 rfl) ?_
  refine mz_getR hx hb htl hown hK hM 3 (Nat.le_of_ble_eq_true rfl) (Nat.le_of_ble_eq_true rfl) (htl _ mw_188) (fun _ h9 => h9) dX13_forget_13 ?_
  refine lv_iconst (v := 3) hx hb dX13_forget_16 (by decide) ?_
  refine lv_iconst (v := 0) hx hb dX13_forget_17 (by decide) ?_
  have hk_3 : (3 : Int32).toInt = 3 := by decide
  have hk_0 : (0 : Int32).toInt = 0 := by decide
  refine mz_iast (x := 0) hx hb hK hD hM hS 3 (Nat.le_of_ble_eq_true rfl) rfl (nn := 5560) rfl (I := 3) (by decide) (by decide) (by decide) dX13_forget_18 (fun H locs R hM hS hw9 hj9 => ?_)
  have hIR := hIR.put hw9 hj9 (mz_r3 (hIR.at 3) (I := 3) (by decide) (by omega) (by omega) (fun h9 => by first | (cases h9; done) | omega) (by unfold mE; omega))
  have hRR := mz_frp (K := [3]) (Fa := Ra) hj9 (fun _ _ => rfl) (by decide)
  have hf6 : R 3 3 = 0 := (congrFun hw9 3).trans pk_us
  refine lv_iload_n hx hb dX13_forget_19 rfl (lv_at hl 0 rfl) ?_
  exact mz_iret (v := v4) hx hb hr rfl hlocks ⟨hIF, hIG, hIR, hFF, hRR, (fun _ _ => rfl), (by omega), (by omega)⟩ hM hS dX13_forget_20
theorem dX13_stopped_0 : decode cX13_stopped 0 = .ok (.aload_n 0, 1) := by decide +kernel
theorem dX13_stopped_1 : decode cX13_stopped 1 = .ok (.iconst 0, 1) := by decide +kernel
theorem dX13_stopped_2 : decode cX13_stopped 2 = .ok (.putfield 170, 3) := by decide +kernel
theorem dX13_stopped_5 : decode cX13_stopped 5 = .ok (.aload_n 0, 1) := by decide +kernel
theorem dX13_stopped_6 : decode cX13_stopped 6 = .ok (.getfield 152, 3) := by decide +kernel
theorem dX13_stopped_9 : decode cX13_stopped 9 = .ok (.ireturn, 1) := by decide +kernel
set_option maxHeartbeats 4000000 in
set_option maxRecDepth 100000 in
theorem k_X13_stopped (l : Launch) (D : va_G) (cy : Nat → ClassId) (ld ad : Nat → Nat) (am : Nat) (hD : mz_D ad am) (Fa : Nat → Int32) (Ga : Nat → Int64) (Ra : Nat → Nat → Int32) (Sa : Nat → Nat → Int64) (hIF : mz_IF true Fa) (hIG : mz_IG Ga) (hIR : mz_IR [] true Ra) : Met l yX13_stopped (wl yX13_stopped cX13_stopped 1 (some .int)) ({ frames := 3, cells := 0, slots := 0, locals := 140 }) (mz_p D cy ld ad am Fa Ga Ra Sa [.ref am]) (mz_i D cy ad am (fun r F G R S => mz_IF true F ∧ mz_IG G ∧ mz_IR [] true R ∧ (∀ k : Nat, k ∉ ([0] : List Nat) → F k = Fa k) ∧ (∀ k : Nat, k ∉ ([] : List Nat) → R k = Ra k) ∧ (∀ k : Nat, k ∉ ([] : List Nat) → G k = Ga k))) 0 0 (mz_W ad am) := by
  refine mz_met (y := yX13_stopped) (cc := cX13_stopped) (maxL := 1) (ret := (some .int)) (av := [.ref am]) _ (by decide) (Nat.le_of_ble_eq_true rfl) ?_
  intro p e s m args below meth c hx hb hr hml hts htl hown hlocks hK H locs hM hS ls hl
  have hown : s.vm.findClass RX13 = some m.cls := hown
  have hl : lv_has ls 1 [(0, .ref am)] := hl
  refine lv_aload_n hx hb dX13_stopped_0 rfl (lv_at hl 0 rfl) ?_
  refine lv_iconst (v := 0) hx hb dX13_stopped_1 (by decide) ?_
  have hk_0 : (0 : Int32).toInt = 0 := by decide
  refine mz_putI (ty := .int) (x := 0) hx hb htl hown hK hD hM hS 0 (Nat.le_of_ble_eq_true rfl) rfl (htl _ mw_286) (fun _ h9 => h9) rfl (tyX13_ok 0 (by decide)) rfl rfl dX13_stopped_2 (fun H locs F hM hS hf9 hj9 => ?_)
  have hIF := hIF.put hf9 hj9 (tk_rng _).1 (tk_rng _).2 (by decide)
  have hFF := mz_frp (K := [0]) (Fa := Fa) hj9 (fun _ _ => rfl) (by decide)
  have hf2 := hf9
  refine lv_aload_n hx hb dX13_stopped_5 rfl (lv_at hl 0 rfl) ?_
  refine mz_getI hx hb htl hown hK hM 64 (Nat.le_of_ble_eq_true rfl) rfl (htl _ mw_240) (fun _ h9 => h9) dX13_stopped_6 (fun v4 hf3 => ?_)
  have hq_v4 := tk_rng v4
  exact mz_iret (v := v4) hx hb hr rfl hlocks ⟨hIF, hIG, hIR, hFF, (fun _ _ => rfl), (fun _ _ => rfl)⟩ hM hS dX13_stopped_9
theorem dX13_manyOf_0 : decode cX13_manyOf 0 = .ok (.iconst 0, 1) := by decide +kernel
theorem dX13_manyOf_1 : decode cX13_manyOf 1 = .ok (.istore_n 2, 1) := by decide +kernel
theorem dX13_manyOf_2 : decode cX13_manyOf 2 = .ok (.iconst 0, 1) := by decide +kernel
theorem dX13_manyOf_3 : decode cX13_manyOf 3 = .ok (.istore_n 3, 1) := by decide +kernel
theorem dX13_manyOf_4 : decode cX13_manyOf 4 = .ok (.iload_n 3, 1) := by decide +kernel
theorem dX13_manyOf_5 : decode cX13_manyOf 5 = .ok (.aload_n 0, 1) := by decide +kernel
theorem dX13_manyOf_6 : decode cX13_manyOf 6 = .ok (.getfield 13, 3) := by decide +kernel
theorem dX13_manyOf_9 : decode cX13_manyOf 9 = .ok (.iconst 0, 1) := by decide +kernel
theorem dX13_manyOf_10 : decode cX13_manyOf 10 = .ok (.iaload, 1) := by decide +kernel
theorem dX13_manyOf_11 : decode cX13_manyOf 11 = .ok (.if_icmp .ge 27, 3) := by decide +kernel
theorem dX13_manyOf_38 : decode cX13_manyOf 38 = .ok (.iload_n 2, 1) := by decide +kernel
theorem dX13_manyOf_39 : decode cX13_manyOf 39 = .ok (.ireturn, 1) := by decide +kernel
theorem dX13_manyOf_14 : decode cX13_manyOf 14 = .ok (.iload_n 2, 1) := by decide +kernel
theorem dX13_manyOf_15 : decode cX13_manyOf 15 = .ok (.aload_n 0, 1) := by decide +kernel
theorem dX13_manyOf_16 : decode cX13_manyOf 16 = .ok (.iload_n 3, 1) := by decide +kernel
theorem dX13_manyOf_17 : decode cX13_manyOf 17 = .ok (.iconst 2, 1) := by decide +kernel
theorem dX13_manyOf_18 : decode cX13_manyOf 18 = .ok (.invokevirtual 207, 3) := by decide +kernel
theorem dX13_manyOf_21 : decode cX13_manyOf 21 = .ok (.iload_n 1, 1) := by decide +kernel
theorem dX13_manyOf_30 : decode cX13_manyOf 30 = .ok (.iadd, 1) := by decide +kernel
theorem dX13_manyOf_31 : decode cX13_manyOf 31 = .ok (.istore_n 2, 1) := by decide +kernel
theorem dX13_manyOf_32 : decode cX13_manyOf 32 = .ok (.iinc 3 1, 3) := by decide +kernel
theorem dX13_manyOf_35 : decode cX13_manyOf 35 = .ok (.goto (-31), 3) := by decide +kernel
theorem dX13_manyOf_22 : decode cX13_manyOf 22 = .ok (.if_icmp .ne 7, 3) := by decide +kernel
theorem dX13_manyOf_29 : decode cX13_manyOf 29 = .ok (.iconst 0, 1) := by decide +kernel
theorem dX13_manyOf_25 : decode cX13_manyOf 25 = .ok (.iconst 1, 1) := by decide +kernel
theorem dX13_manyOf_26 : decode cX13_manyOf 26 = .ok (.goto 4, 3) := by decide +kernel
set_option maxHeartbeats 4000000 in
set_option maxRecDepth 100000 in
theorem k_X13_manyOf (l : Launch) (D : va_G) (cy : Nat → ClassId) (ld ad : Nat → Nat) (am : Nat) (hD : mz_D ad am) (Fa : Nat → Int32) (Ga : Nat → Int64) (Ra : Nat → Nat → Int32) (Sa : Nat → Nat → Int64) (p1 : Int32) (hIF : mz_IF true Fa) (hIG : mz_IG Ga) (hIR : mz_IR [] true Ra) : Met l yX13_manyOf (wl yX13_manyOf cX13_manyOf 4 (some .int)) ({ frames := 4, cells := 0, slots := 0, locals := 210 }) (mz_p D cy ld ad am Fa Ga Ra Sa [.ref am, .int p1]) (mz_j D cy ad am Fa Ga Ra Sa (fun r => 0 ≤ r.toInt ∧ r.toInt ≤ 8)) 0 0 (mz_W ad am) := by
  refine mz_met (y := yX13_manyOf) (cc := cX13_manyOf) (maxL := 4) (ret := (some .int)) (av := [.ref am, .int p1]) _ (by decide) (Nat.le_of_ble_eq_true rfl) ?_
  intro p e s m args below meth c hx hb hr hml hts htl hown hlocks hK H locs hM hS ls hl
  have hown : s.vm.findClass RX13 = some m.cls := hown
  have hl : lv_has ls 4 [(0, .ref am), (1, .int p1)] := hl
  have hr_p1 := tk_rng p1
  refine lv_iconst (v := 0) hx hb dX13_manyOf_0 (by decide) ?_
  refine lv_istore_n (lv' := [(2, .int 0), (0, .ref am), (1, .int p1)]) hx hb dX13_manyOf_1 rfl hl (by decide) rfl (fun ls hl => ?_)
  refine lv_iconst (v := 0) hx hb dX13_manyOf_2 (by decide) ?_
  refine lv_istore_n (lv' := [(3, .int 0), (2, .int 0), (0, .ref am), (1, .int p1)]) hx hb dX13_manyOf_3 rfl hl (by decide) rfl (fun ls hl => ?_)
  have hl159 : ∀ (N_l159 : Nat) (v23 : Int32) (v24 : Int32) (H : Heap) (locs : List Loc), (v23.toInt ≤ 8) → (0 ≤ v24.toInt) → (0 ≤ v23.toInt + (-1) * v24.toInt) → (mz_S D cy ad am Fa Ga Ra Sa H) → (va_S (mz_W ad am) s.heap H locs) → ((-1) * v23.toInt + 8 < (N_l159 : Int)) → ∀ ls : Array Slot, lv_has ls 4 [(3, .int v23), (2, .int v24), (0, .ref am), (1, .int p1)] → W p l e ({ frames := 4, cells := 0, slots := 0, locals := 210 }) s m args below meth c H locs 0 0 (MQ below (mz_j D cy ad am Fa Ga Ra Sa (fun r => 0 ≤ r.toInt ∧ r.toInt ≤ 8)) args s 0 0 (mz_W ad am)) (F0 m 4 ls []) := by
    intro N_l159
    induction N_l159 with
    | zero => intro v23 v24 H locs hq0_l159 hq1_l159 hq2_l159 hM hS hm_l159 ls hl; exfalso; omega
    | succ N_l159 ih_l159 =>
      intro v23 v24 H locs hq0_l159 hq1_l159 hq2_l159 hM hS hm_l159 ls hl
      refine lv_iload_n hx hb dX13_manyOf_4 rfl (lv_at hl 0 rfl) ?_
      refine lv_aload_n hx hb dX13_manyOf_5 rfl (lv_at hl 2 rfl) ?_
      refine mz_getR hx hb htl hown hK hM 3 (Nat.le_of_ble_eq_true rfl) (Nat.le_of_ble_eq_true rfl) (htl _ mw_188) (fun _ h9 => h9) dX13_manyOf_6 ?_
      refine lv_iconst (v := 0) hx hb dX13_manyOf_9 (by decide) ?_
      refine mz_iald hx hb hK hM 3 (Nat.le_of_ble_eq_true rfl) rfl (nn := 5560) rfl (I := 0) (by decide) (by decide) (by decide) dX13_manyOf_10 (fun v161 hf160 => ?_)
      have hf160 : Ra 3 0 = v161 := hf160
      have hq_v161 := tk_rng v161
      have hr_v161 : 0 ≤ v161.toInt ∧ v161.toInt ≤ 8 := by have h9 := mz_r3c 0 (hIR.at 3) hf160 (by decide); unfold mE at h9; omega
      refine lv_icmp_ge (tgt := 38) hx hb dX13_manyOf_11 (by decide) (fun c9 => ?_) (fun c9 => ?_)
      · have hc162 : v161.toInt ≤ v23.toInt := (fi_le rfl rfl).mp c9
        refine lv_iload_n hx hb dX13_manyOf_38 rfl (lv_at hl 1 rfl) ?_
        exact mz_jret (v := v24) hx hb hr rfl hlocks ⟨(by omega), (by omega)⟩ hM hS dX13_manyOf_39
      · have hc162 : ¬ (v161.toInt ≤ v23.toInt) := fun h9 => c9 ((fi_le rfl rfl).mpr h9)
        refine lv_iload_n hx hb dX13_manyOf_14 rfl (lv_at hl 1 rfl) ?_
        refine lv_aload_n hx hb dX13_manyOf_15 rfl (lv_at hl 2 rfl) ?_
        refine lv_iload_n hx hb dX13_manyOf_16 rfl (lv_at hl 0 rfl) ?_
        refine lv_iconst (v := 2) hx hb dX13_manyOf_17 (by decide) ?_
        have hk_2 : (2 : Int32).toInt = 2 := by decide
        refine mz_Vj (As := [.int v23, .int 2]) (rest := [.int v24]) ⟨hx, hb, hml, hown, hts⟩ hK hM hS (k_X13_ofSinger_2 l D cy ld ad am hD _ _ _ _ v23 hIF hIG hIR (by omega) (by omega)) ⟨callB_of 2 hts (wl_in mw_324) rfl rfl rfl (htl _ mw_5) (htl _ mw_321) hd_yX13_ofSinger ⟨(Nat.le_of_ble_eq_true rfl), (Nat.le_of_ble_eq_true rfl)⟩, htl _ mw_322, htl _ mw_323⟩ rfl hl.1 rfl (Nat.le_of_ble_eq_true rfl) dX13_manyOf_18 ⟨(Nat.le_of_ble_eq_true rfl), (Nat.le_of_ble_eq_true rfl)⟩ (fun v171 H locs hpo hM hS => ?_)
        have hq_v171 := tk_rng v171
        refine lv_iload_n hx hb dX13_manyOf_21 rfl (lv_at hl 3 rfl) ?_
        have hj176 : ∀ (v175 : Int32), (0 ≤ v175.toInt) → (v175.toInt ≤ 1) → ∀ ls : Array Slot, lv_has ls 4 [(3, .int v23), (0, .ref am), (1, .int p1)] → W p l e ({ frames := 4, cells := 0, slots := 0, locals := 210 }) s m args below meth c H locs 0 0 (MQ below (mz_j D cy ad am Fa Ga Ra Sa (fun r => 0 ≤ r.toInt ∧ r.toInt ≤ 8)) args s 0 0 (mz_W ad am)) (F0 m 30 ls [.int v175, .int v24]) := by
          intro v175 hq0_j176 hq1_j176 ls hl
          refine lv_iadd hx hb dX13_manyOf_30 ?_
          refine tk_add rfl rfl (by omega) (by omega) (fun v177 h_v177 => ?_)
          refine lv_istore_n (lv' := [(2, .int v177), (3, .int v23), (0, .ref am), (1, .int p1)]) hx hb dX13_manyOf_31 rfl hl (by decide) rfl (fun ls hl => ?_)
          obtain ⟨v178, h_v178, e_v178⟩ := tk_inc v23 1 (by decide) (by omega) (by omega)
          refine lv_iinc (v := v178) (lv' := [(3, .int v178), (2, .int v177), (0, .ref am), (1, .int p1)]) hx hb dX13_manyOf_32 hl (k := 1) rfl e_v178 (by decide) rfl (fun ls hl => ?_)
          refine lv_goto (tgt := 4) hx hb dX13_manyOf_35 (by decide) ?_
          exact ih_l159 v178 v177 _ _ (by omega) (by omega) (by omega) hM hS (by omega) _ (lv_sub hl [0, 1, 2, 3] rfl)
        refine lv_icmp_ne (tgt := 29) hx hb dX13_manyOf_22 (by decide) (fun c9 => ?_) (fun c9 => ?_)
        · have hc173 : ¬ (v171.toInt = p1.toInt) := fun h9 => c9 ((fi_eq rfl rfl).mpr h9)
          refine lv_iconst (v := 0) hx hb dX13_manyOf_29 (by decide) ?_
          have hk_0 : (0 : Int32).toInt = 0 := by decide
          exact hj176 0 (by omega) (by omega) _ (lv_sub hl [0, 2, 3] rfl)
        · have hc173 : v171.toInt = p1.toInt := (fi_eq rfl rfl).mp c9
          refine lv_iconst (v := 1) hx hb dX13_manyOf_25 (by decide) ?_
          refine lv_goto (tgt := 30) hx hb dX13_manyOf_26 (by decide) ?_
          have hk_1 : (1 : Int32).toInt = 1 := by decide
          exact hj176 1 (by omega) (by omega) _ (lv_sub hl [0, 2, 3] rfl)
  have hk_0 : (0 : Int32).toInt = 0 := by decide
  have hk_0 : (0 : Int32).toInt = 0 := by decide
  exact hl159 9 0 0 _ _ (by omega) (by omega) (by omega) hM hS (by omega) _ (lv_sub hl [0, 1, 2, 3] rfl)
theorem dX13_count_0 : decode cX13_count 0 = .ok (.aload_n 0, 1) := by decide +kernel
theorem dX13_count_1 : decode cX13_count 1 = .ok (.iconst 0, 1) := by decide +kernel
theorem dX13_count_2 : decode cX13_count 2 = .ok (.putfield 170, 3) := by decide +kernel
theorem dX13_count_5 : decode cX13_count 5 = .ok (.iload_n 1, 1) := by decide +kernel
theorem dX13_count_6 : decode cX13_count 6 = .ok (.tableswitch 178 0 14 #[74, 81, 88, 95, 102, 109, 114, 119, 126, 133, 140, 147, 155, 162, 170], 74) := by decide +kernel
theorem dX13_count_80 : decode cX13_count 80 = .ok (.aload_n 0, 1) := by decide +kernel
theorem dX13_count_81 : decode cX13_count 81 = .ok (.getfield 13, 3) := by decide +kernel
theorem dX13_count_84 : decode cX13_count 84 = .ok (.iconst 0, 1) := by decide +kernel
theorem dX13_count_85 : decode cX13_count 85 = .ok (.iaload, 1) := by decide +kernel
theorem dX13_count_86 : decode cX13_count 86 = .ok (.ireturn, 1) := by decide +kernel
theorem dX13_count_87 : decode cX13_count 87 = .ok (.aload_n 0, 1) := by decide +kernel
theorem dX13_count_88 : decode cX13_count 88 = .ok (.getfield 13, 3) := by decide +kernel
theorem dX13_count_91 : decode cX13_count 91 = .ok (.iconst 1, 1) := by decide +kernel
theorem dX13_count_92 : decode cX13_count 92 = .ok (.iaload, 1) := by decide +kernel
theorem dX13_count_93 : decode cX13_count 93 = .ok (.ireturn, 1) := by decide +kernel
theorem dX13_count_94 : decode cX13_count 94 = .ok (.aload_n 0, 1) := by decide +kernel
theorem dX13_count_95 : decode cX13_count 95 = .ok (.getfield 13, 3) := by decide +kernel
theorem dX13_count_98 : decode cX13_count 98 = .ok (.iconst 2, 1) := by decide +kernel
theorem dX13_count_99 : decode cX13_count 99 = .ok (.iaload, 1) := by decide +kernel
theorem dX13_count_100 : decode cX13_count 100 = .ok (.ireturn, 1) := by decide +kernel
theorem dX13_count_101 : decode cX13_count 101 = .ok (.aload_n 0, 1) := by decide +kernel
theorem dX13_count_102 : decode cX13_count 102 = .ok (.getfield 13, 3) := by decide +kernel
theorem dX13_count_105 : decode cX13_count 105 = .ok (.iconst 3, 1) := by decide +kernel
theorem dX13_count_106 : decode cX13_count 106 = .ok (.iaload, 1) := by decide +kernel
theorem dX13_count_107 : decode cX13_count 107 = .ok (.ireturn, 1) := by decide +kernel
theorem dX13_count_108 : decode cX13_count 108 = .ok (.aload_n 0, 1) := by decide +kernel
theorem dX13_count_109 : decode cX13_count 109 = .ok (.getfield 13, 3) := by decide +kernel
theorem dX13_count_112 : decode cX13_count 112 = .ok (.iconst 4, 1) := by decide +kernel
theorem dX13_count_113 : decode cX13_count 113 = .ok (.iaload, 1) := by decide +kernel
theorem dX13_count_114 : decode cX13_count 114 = .ok (.ireturn, 1) := by decide +kernel
theorem dX13_count_115 : decode cX13_count 115 = .ok (.aload_n 0, 1) := by decide +kernel
theorem dX13_count_116 : decode cX13_count 116 = .ok (.getfield 176, 3) := by decide +kernel
theorem dX13_count_119 : decode cX13_count 119 = .ok (.ireturn, 1) := by decide +kernel
theorem dX13_count_120 : decode cX13_count 120 = .ok (.aload_n 0, 1) := by decide +kernel
theorem dX13_count_121 : decode cX13_count 121 = .ok (.getfield 224, 3) := by decide +kernel
theorem dX13_count_124 : decode cX13_count 124 = .ok (.ireturn, 1) := by decide +kernel
theorem dX13_count_125 : decode cX13_count 125 = .ok (.aload_n 0, 1) := by decide +kernel
theorem dX13_count_126 : decode cX13_count 126 = .ok (.getfield 7, 3) := by decide +kernel
theorem dX13_count_129 : decode cX13_count 129 = .ok (.iconst 1, 1) := by decide +kernel
theorem dX13_count_130 : decode cX13_count 130 = .ok (.iaload, 1) := by decide +kernel
theorem dX13_count_131 : decode cX13_count 131 = .ok (.ireturn, 1) := by decide +kernel
theorem dX13_count_132 : decode cX13_count 132 = .ok (.aload_n 0, 1) := by decide +kernel
theorem dX13_count_133 : decode cX13_count 133 = .ok (.getfield 7, 3) := by decide +kernel
theorem dX13_count_136 : decode cX13_count 136 = .ok (.iconst 2, 1) := by decide +kernel
theorem dX13_count_137 : decode cX13_count 137 = .ok (.iaload, 1) := by decide +kernel
theorem dX13_count_138 : decode cX13_count 138 = .ok (.ireturn, 1) := by decide +kernel
theorem dX13_count_139 : decode cX13_count 139 = .ok (.aload_n 0, 1) := by decide +kernel
theorem dX13_count_140 : decode cX13_count 140 = .ok (.getfield 7, 3) := by decide +kernel
theorem dX13_count_143 : decode cX13_count 143 = .ok (.iconst 3, 1) := by decide +kernel
theorem dX13_count_144 : decode cX13_count 144 = .ok (.iaload, 1) := by decide +kernel
theorem dX13_count_145 : decode cX13_count 145 = .ok (.ireturn, 1) := by decide +kernel
theorem dX13_count_146 : decode cX13_count 146 = .ok (.aload_n 0, 1) := by decide +kernel
theorem dX13_count_147 : decode cX13_count 147 = .ok (.getfield 7, 3) := by decide +kernel
theorem dX13_count_150 : decode cX13_count 150 = .ok (.iconst 5, 1) := by decide +kernel
theorem dX13_count_151 : decode cX13_count 151 = .ok (.iaload, 1) := by decide +kernel
theorem dX13_count_152 : decode cX13_count 152 = .ok (.ireturn, 1) := by decide +kernel
theorem dX13_count_153 : decode cX13_count 153 = .ok (.aload_n 0, 1) := by decide +kernel
theorem dX13_count_154 : decode cX13_count 154 = .ok (.getfield 7, 3) := by decide +kernel
theorem dX13_count_157 : decode cX13_count 157 = .ok (.bipush 6, 2) := by decide +kernel
theorem dX13_count_159 : decode cX13_count 159 = .ok (.iaload, 1) := by decide +kernel
theorem dX13_count_160 : decode cX13_count 160 = .ok (.ireturn, 1) := by decide +kernel
theorem dX13_count_161 : decode cX13_count 161 = .ok (.aload_n 0, 1) := by decide +kernel
theorem dX13_count_162 : decode cX13_count 162 = .ok (.getfield 13, 3) := by decide +kernel
theorem dX13_count_165 : decode cX13_count 165 = .ok (.iconst 5, 1) := by decide +kernel
theorem dX13_count_166 : decode cX13_count 166 = .ok (.iaload, 1) := by decide +kernel
theorem dX13_count_167 : decode cX13_count 167 = .ok (.ireturn, 1) := by decide +kernel
theorem dX13_count_168 : decode cX13_count 168 = .ok (.aload_n 0, 1) := by decide +kernel
theorem dX13_count_169 : decode cX13_count 169 = .ok (.getfield 13, 3) := by decide +kernel
theorem dX13_count_172 : decode cX13_count 172 = .ok (.bipush 10, 2) := by decide +kernel
theorem dX13_count_174 : decode cX13_count 174 = .ok (.iaload, 1) := by decide +kernel
theorem dX13_count_175 : decode cX13_count 175 = .ok (.ireturn, 1) := by decide +kernel
theorem dX13_count_176 : decode cX13_count 176 = .ok (.aload_n 0, 1) := by decide +kernel
theorem dX13_count_177 : decode cX13_count 177 = .ok (.getfield 13, 3) := by decide +kernel
theorem dX13_count_180 : decode cX13_count 180 = .ok (.bipush 11, 2) := by decide +kernel
theorem dX13_count_182 : decode cX13_count 182 = .ok (.iaload, 1) := by decide +kernel
theorem dX13_count_183 : decode cX13_count 183 = .ok (.ireturn, 1) := by decide +kernel
theorem dX13_count_184 : decode cX13_count 184 = .ok (.iload_n 1, 1) := by decide +kernel
theorem dX13_count_185 : decode cX13_count 185 = .ok (.i2l, 1) := by decide +kernel
theorem dX13_count_186 : decode cX13_count 186 = .ok (.ldc2_w 643, 3) := by decide +kernel
theorem dX13_count_189 : decode cX13_count 189 = .ok (.ldc2_w 645, 3) := by decide +kernel
theorem dX13_count_192 : decode cX13_count 192 = .ok (.invokestatic 190, 3) := by decide +kernel
theorem dX13_count_195 : decode cX13_count 195 = .ok (.ifCond .eq 18, 3) := by decide +kernel
theorem dX13_count_213 : decode cX13_count 213 = .ok (.iconst (-1), 1) := by decide +kernel
theorem dX13_count_214 : decode cX13_count 214 = .ok (.ireturn, 1) := by decide +kernel
theorem dX13_count_198 : decode cX13_count 198 = .ok (.aload_n 0, 1) := by decide +kernel
theorem dX13_count_199 : decode cX13_count 199 = .ok (.getfield 13, 3) := by decide +kernel
theorem dX13_count_202 : decode cX13_count 202 = .ok (.bipush 6, 2) := by decide +kernel
theorem dX13_count_204 : decode cX13_count 204 = .ok (.iload_n 1, 1) := by decide +kernel
theorem dX13_count_205 : decode cX13_count 205 = .ok (.iadd, 1) := by decide +kernel
theorem dX13_count_206 : decode cX13_count 206 = .ok (.bipush 15, 2) := by decide +kernel
theorem dX13_count_208 : decode cX13_count 208 = .ok (.isub, 1) := by decide +kernel
theorem dX13_count_209 : decode cX13_count 209 = .ok (.iaload, 1) := by decide +kernel
theorem dX13_count_210 : decode cX13_count 210 = .ok (.goto 4, 3) := by decide +kernel
set_option maxHeartbeats 4000000 in
set_option maxRecDepth 100000 in
theorem k_X13_count (l : Launch) (D : va_G) (cy : Nat → ClassId) (ld ad : Nat → Nat) (am : Nat) (hD : mz_D ad am) (Fa : Nat → Int32) (Ga : Nat → Int64) (Ra : Nat → Nat → Int32) (Sa : Nat → Nat → Int64) (p1 : Int32) (hIF : mz_IF true Fa) (hIG : mz_IG Ga) (hIR : mz_IR [] true Ra) : Met l yX13_count (wl yX13_count cX13_count 2 (some .int)) ({ frames := 4, cells := 0, slots := 0, locals := 210 }) (mz_p D cy ld ad am Fa Ga Ra Sa [.ref am, .int p1]) (mz_i D cy ad am (fun r F G R S => mz_IF true F ∧ mz_IG G ∧ mz_IR [] true R ∧ (∀ k : Nat, k ∉ ([0] : List Nat) → F k = Fa k) ∧ (∀ k : Nat, k ∉ ([] : List Nat) → R k = Ra k) ∧ (∀ k : Nat, k ∉ ([] : List Nat) → G k = Ga k))) 0 0 (mz_W ad am) := by
  refine mz_met (y := yX13_count) (cc := cX13_count) (maxL := 2) (ret := (some .int)) (av := [.ref am, .int p1]) _ (by decide) (Nat.le_of_ble_eq_true rfl) ?_
  intro p e s m args below meth c hx hb hr hml hts htl hown hlocks hK H locs hM hS ls hl
  have hown : s.vm.findClass RX13 = some m.cls := hown
  have hl : lv_has ls 2 [(0, .ref am), (1, .int p1)] := hl
  have hr_p1 := tk_rng p1
  refine lv_aload_n hx hb dX13_count_0 rfl (lv_at hl 0 rfl) ?_
  refine lv_iconst (v := 0) hx hb dX13_count_1 (by decide) ?_
  have hk_0 : (0 : Int32).toInt = 0 := by decide
  refine mz_putI (ty := .int) (x := 0) hx hb htl hown hK hD hM hS 0 (Nat.le_of_ble_eq_true rfl) rfl (htl _ mw_286) (fun _ h9 => h9) rfl (tyX13_ok 0 (by decide)) rfl rfl dX13_count_2 (fun H locs F hM hS hf9 hj9 => ?_)
  have hIF := hIF.put hf9 hj9 (tk_rng _).1 (tk_rng _).2 (by decide)
  have hFF := mz_frp (K := [0]) (Fa := Fa) hj9 (fun _ _ => rfl) (by decide)
  have hf2 := hf9
  refine lv_iload_n hx hb dX13_count_5 rfl (lv_at hl 1 rfl) ?_
  rcases (show p1.toInt = 0 ∨ p1.toInt = 1 ∨ p1.toInt = 2 ∨ p1.toInt = 3 ∨ p1.toInt = 4 ∨ p1.toInt = 5 ∨ p1.toInt = 6 ∨ p1.toInt = 7 ∨ p1.toInt = 8 ∨ p1.toInt = 9 ∨ p1.toInt = 10 ∨ p1.toInt = 11 ∨ p1.toInt = 12 ∨ p1.toInt = 13 ∨ p1.toInt = 14 ∨ p1.toInt < 0 ∨ 14 < p1.toInt by omega) with hsw | hsw | hsw | hsw | hsw | hsw | hsw | hsw | hsw | hsw | hsw | hsw | hsw | hsw | hsw | hsw | hsw
  · refine lv_tableIn (off := 74) (tgt := 80) hx hb dX13_count_6 (by omega) (by omega) (by rw [hsw]; rfl) (by decide) ?_
    refine lv_aload_n hx hb dX13_count_80 rfl (lv_at hl 0 rfl) ?_
    refine mz_getR hx hb htl hown hK hM 3 (Nat.le_of_ble_eq_true rfl) (Nat.le_of_ble_eq_true rfl) (htl _ mw_188) (fun _ h9 => h9) dX13_count_81 ?_
    refine lv_iconst (v := 0) hx hb dX13_count_84 (by decide) ?_
    refine mz_iald hx hb hK hM 3 (Nat.le_of_ble_eq_true rfl) rfl (nn := 5560) rfl (I := 0) (by decide) (by decide) (by decide) dX13_count_85 (fun v4 hf3 => ?_)
    have hf3 : Ra 3 0 = v4 := hf3
    have hq_v4 := tk_rng v4
    have hr_v4 : 0 ≤ v4.toInt ∧ v4.toInt ≤ 8 := by have h9 := mz_r3c 0 (hIR.at 3) hf3 (by decide); unfold mE at h9; omega
    exact mz_iret (v := v4) hx hb hr rfl hlocks ⟨hIF, hIG, hIR, hFF, (fun _ _ => rfl), (fun _ _ => rfl)⟩ hM hS dX13_count_86
  · refine lv_tableIn (off := 81) (tgt := 87) hx hb dX13_count_6 (by omega) (by omega) (by rw [hsw]; rfl) (by decide) ?_
    refine lv_aload_n hx hb dX13_count_87 rfl (lv_at hl 0 rfl) ?_
    refine mz_getR hx hb htl hown hK hM 3 (Nat.le_of_ble_eq_true rfl) (Nat.le_of_ble_eq_true rfl) (htl _ mw_188) (fun _ h9 => h9) dX13_count_88 ?_
    refine lv_iconst (v := 1) hx hb dX13_count_91 (by decide) ?_
    refine mz_iald hx hb hK hM 3 (Nat.le_of_ble_eq_true rfl) rfl (nn := 5560) rfl (I := 1) (by decide) (by decide) (by decide) dX13_count_92 (fun v6 hf5 => ?_)
    have hf5 : Ra 3 1 = v6 := hf5
    have hq_v6 := tk_rng v6
    have hr_v6 : 0 ≤ v6.toInt ∧ v6.toInt ≤ 10 := by have h9 := mz_r3c 1 (hIR.at 3) hf5 (by decide); unfold mE at h9; omega
    exact mz_iret (v := v6) hx hb hr rfl hlocks ⟨hIF, hIG, hIR, hFF, (fun _ _ => rfl), (fun _ _ => rfl)⟩ hM hS dX13_count_93
  · refine lv_tableIn (off := 88) (tgt := 94) hx hb dX13_count_6 (by omega) (by omega) (by rw [hsw]; rfl) (by decide) ?_
    refine lv_aload_n hx hb dX13_count_94 rfl (lv_at hl 0 rfl) ?_
    refine mz_getR hx hb htl hown hK hM 3 (Nat.le_of_ble_eq_true rfl) (Nat.le_of_ble_eq_true rfl) (htl _ mw_188) (fun _ h9 => h9) dX13_count_95 ?_
    refine lv_iconst (v := 2) hx hb dX13_count_98 (by decide) ?_
    refine mz_iald hx hb hK hM 3 (Nat.le_of_ble_eq_true rfl) rfl (nn := 5560) rfl (I := 2) (by decide) (by decide) (by decide) dX13_count_99 (fun v8 hf7 => ?_)
    have hf7 : Ra 3 2 = v8 := hf7
    have hq_v8 := tk_rng v8
    have hr_v8 : 0 ≤ v8.toInt ∧ v8.toInt ≤ 10 := by have h9 := mz_r3c 2 (hIR.at 3) hf7 (by decide); unfold mE at h9; omega
    exact mz_iret (v := v8) hx hb hr rfl hlocks ⟨hIF, hIG, hIR, hFF, (fun _ _ => rfl), (fun _ _ => rfl)⟩ hM hS dX13_count_100
  · refine lv_tableIn (off := 95) (tgt := 101) hx hb dX13_count_6 (by omega) (by omega) (by rw [hsw]; rfl) (by decide) ?_
    refine lv_aload_n hx hb dX13_count_101 rfl (lv_at hl 0 rfl) ?_
    refine mz_getR hx hb htl hown hK hM 3 (Nat.le_of_ble_eq_true rfl) (Nat.le_of_ble_eq_true rfl) (htl _ mw_188) (fun _ h9 => h9) dX13_count_102 ?_
    refine lv_iconst (v := 3) hx hb dX13_count_105 (by decide) ?_
    refine mz_iald hx hb hK hM 3 (Nat.le_of_ble_eq_true rfl) rfl (nn := 5560) rfl (I := 3) (by decide) (by decide) (by decide) dX13_count_106 (fun v10 hf9 => ?_)
    have hf9 : Ra 3 3 = v10 := hf9
    have hq_v10 := tk_rng v10
    have hr_v10 : 0 ≤ v10.toInt ∧ v10.toInt ≤ 8 := by have h9 := mz_r3c 3 (hIR.at 3) hf9 (by decide); unfold mE at h9; omega
    exact mz_iret (v := v10) hx hb hr rfl hlocks ⟨hIF, hIG, hIR, hFF, (fun _ _ => rfl), (fun _ _ => rfl)⟩ hM hS dX13_count_107
  · refine lv_tableIn (off := 102) (tgt := 108) hx hb dX13_count_6 (by omega) (by omega) (by rw [hsw]; rfl) (by decide) ?_
    refine lv_aload_n hx hb dX13_count_108 rfl (lv_at hl 0 rfl) ?_
    refine mz_getR hx hb htl hown hK hM 3 (Nat.le_of_ble_eq_true rfl) (Nat.le_of_ble_eq_true rfl) (htl _ mw_188) (fun _ h9 => h9) dX13_count_109 ?_
    refine lv_iconst (v := 4) hx hb dX13_count_112 (by decide) ?_
    refine mz_iald hx hb hK hM 3 (Nat.le_of_ble_eq_true rfl) rfl (nn := 5560) rfl (I := 4) (by decide) (by decide) (by decide) dX13_count_113 (fun v12 hf11 => ?_)
    have hf11 : Ra 3 4 = v12 := hf11
    have hq_v12 := tk_rng v12
    have hr_v12 : 0 ≤ v12.toInt ∧ v12.toInt ≤ 6 := by have h9 := mz_r3c 4 (hIR.at 3) hf11 (by decide); unfold mE at h9; omega
    exact mz_iret (v := v12) hx hb hr rfl hlocks ⟨hIF, hIG, hIR, hFF, (fun _ _ => rfl), (fun _ _ => rfl)⟩ hM hS dX13_count_114
  · refine lv_tableIn (off := 109) (tgt := 115) hx hb dX13_count_6 (by omega) (by omega) (by rw [hsw]; rfl) (by decide) ?_
    refine lv_aload_n hx hb dX13_count_115 rfl (lv_at hl 0 rfl) ?_
    refine mz_getI hx hb htl hown hK hM 8 (Nat.le_of_ble_eq_true rfl) rfl (htl _ mw_289) (fun _ h9 => h9) dX13_count_116 (fun v14 hf13 => ?_)
    have hq_v14 := tk_rng v14
    have hr_v14 : 0 ≤ v14.toInt ∧ v14.toInt ≤ 16 := hIF.at hf13
    exact mz_iret (v := v14) hx hb hr rfl hlocks ⟨hIF, hIG, hIR, hFF, (fun _ _ => rfl), (fun _ _ => rfl)⟩ hM hS dX13_count_119
  · refine lv_tableIn (off := 114) (tgt := 120) hx hb dX13_count_6 (by omega) (by omega) (by rw [hsw]; rfl) (by decide) ?_
    refine lv_aload_n hx hb dX13_count_120 rfl (lv_at hl 0 rfl) ?_
    refine mz_getI hx hb htl hown hK hM 13 (Nat.le_of_ble_eq_true rfl) rfl (htl _ mw_431) (fun _ h9 => h9) dX13_count_121 (fun v16 hf15 => ?_)
    have hq_v16 := tk_rng v16
    have hr_v16 : 0 ≤ v16.toInt ∧ v16.toInt ≤ 400 := hIF.at hf15
    exact mz_iret (v := v16) hx hb hr rfl hlocks ⟨hIF, hIG, hIR, hFF, (fun _ _ => rfl), (fun _ _ => rfl)⟩ hM hS dX13_count_124
  · refine lv_tableIn (off := 119) (tgt := 125) hx hb dX13_count_6 (by omega) (by omega) (by rw [hsw]; rfl) (by decide) ?_
    refine lv_aload_n hx hb dX13_count_125 rfl (lv_at hl 0 rfl) ?_
    refine mz_getR hx hb htl hown hK hM 2 (Nat.le_of_ble_eq_true rfl) (Nat.le_of_ble_eq_true rfl) (htl _ mw_187) (fun _ h9 => h9) dX13_count_126 ?_
    refine lv_iconst (v := 1) hx hb dX13_count_129 (by decide) ?_
    refine mz_iald hx hb hK hM 2 (Nat.le_of_ble_eq_true rfl) rfl (nn := 7) rfl (I := 1) (by decide) (by decide) (by decide) dX13_count_130 (fun v18 hf17 => ?_)
    have hf17 : Ra 2 1 = v18 := hf17
    have hq_v18 := tk_rng v18
    exact mz_iret (v := v18) hx hb hr rfl hlocks ⟨hIF, hIG, hIR, hFF, (fun _ _ => rfl), (fun _ _ => rfl)⟩ hM hS dX13_count_131
  · refine lv_tableIn (off := 126) (tgt := 132) hx hb dX13_count_6 (by omega) (by omega) (by rw [hsw]; rfl) (by decide) ?_
    refine lv_aload_n hx hb dX13_count_132 rfl (lv_at hl 0 rfl) ?_
    refine mz_getR hx hb htl hown hK hM 2 (Nat.le_of_ble_eq_true rfl) (Nat.le_of_ble_eq_true rfl) (htl _ mw_187) (fun _ h9 => h9) dX13_count_133 ?_
    refine lv_iconst (v := 2) hx hb dX13_count_136 (by decide) ?_
    refine mz_iald hx hb hK hM 2 (Nat.le_of_ble_eq_true rfl) rfl (nn := 7) rfl (I := 2) (by decide) (by decide) (by decide) dX13_count_137 (fun v20 hf19 => ?_)
    have hf19 : Ra 2 2 = v20 := hf19
    have hq_v20 := tk_rng v20
    exact mz_iret (v := v20) hx hb hr rfl hlocks ⟨hIF, hIG, hIR, hFF, (fun _ _ => rfl), (fun _ _ => rfl)⟩ hM hS dX13_count_138
  · refine lv_tableIn (off := 133) (tgt := 139) hx hb dX13_count_6 (by omega) (by omega) (by rw [hsw]; rfl) (by decide) ?_
    refine lv_aload_n hx hb dX13_count_139 rfl (lv_at hl 0 rfl) ?_
    refine mz_getR hx hb htl hown hK hM 2 (Nat.le_of_ble_eq_true rfl) (Nat.le_of_ble_eq_true rfl) (htl _ mw_187) (fun _ h9 => h9) dX13_count_140 ?_
    refine lv_iconst (v := 3) hx hb dX13_count_143 (by decide) ?_
    refine mz_iald hx hb hK hM 2 (Nat.le_of_ble_eq_true rfl) rfl (nn := 7) rfl (I := 3) (by decide) (by decide) (by decide) dX13_count_144 (fun v22 hf21 => ?_)
    have hf21 : Ra 2 3 = v22 := hf21
    have hq_v22 := tk_rng v22
    exact mz_iret (v := v22) hx hb hr rfl hlocks ⟨hIF, hIG, hIR, hFF, (fun _ _ => rfl), (fun _ _ => rfl)⟩ hM hS dX13_count_145
  · refine lv_tableIn (off := 140) (tgt := 146) hx hb dX13_count_6 (by omega) (by omega) (by rw [hsw]; rfl) (by decide) ?_
    refine lv_aload_n hx hb dX13_count_146 rfl (lv_at hl 0 rfl) ?_
    refine mz_getR hx hb htl hown hK hM 2 (Nat.le_of_ble_eq_true rfl) (Nat.le_of_ble_eq_true rfl) (htl _ mw_187) (fun _ h9 => h9) dX13_count_147 ?_
    refine lv_iconst (v := 5) hx hb dX13_count_150 (by decide) ?_
    refine mz_iald hx hb hK hM 2 (Nat.le_of_ble_eq_true rfl) rfl (nn := 7) rfl (I := 5) (by decide) (by decide) (by decide) dX13_count_151 (fun v24 hf23 => ?_)
    have hf23 : Ra 2 5 = v24 := hf23
    have hq_v24 := tk_rng v24
    exact mz_iret (v := v24) hx hb hr rfl hlocks ⟨hIF, hIG, hIR, hFF, (fun _ _ => rfl), (fun _ _ => rfl)⟩ hM hS dX13_count_152
  · refine lv_tableIn (off := 147) (tgt := 153) hx hb dX13_count_6 (by omega) (by omega) (by rw [hsw]; rfl) (by decide) ?_
    refine lv_aload_n hx hb dX13_count_153 rfl (lv_at hl 0 rfl) ?_
    refine mz_getR hx hb htl hown hK hM 2 (Nat.le_of_ble_eq_true rfl) (Nat.le_of_ble_eq_true rfl) (htl _ mw_187) (fun _ h9 => h9) dX13_count_154 ?_
    refine lv_bipush (v := 6) hx hb dX13_count_157 (by decide) ?_
    refine mz_iald hx hb hK hM 2 (Nat.le_of_ble_eq_true rfl) rfl (nn := 7) rfl (I := 6) (by decide) (by decide) (by decide) dX13_count_159 (fun v26 hf25 => ?_)
    have hf25 : Ra 2 6 = v26 := hf25
    have hq_v26 := tk_rng v26
    exact mz_iret (v := v26) hx hb hr rfl hlocks ⟨hIF, hIG, hIR, hFF, (fun _ _ => rfl), (fun _ _ => rfl)⟩ hM hS dX13_count_160
  · refine lv_tableIn (off := 155) (tgt := 161) hx hb dX13_count_6 (by omega) (by omega) (by rw [hsw]; rfl) (by decide) ?_
    refine lv_aload_n hx hb dX13_count_161 rfl (lv_at hl 0 rfl) ?_
    refine mz_getR hx hb htl hown hK hM 3 (Nat.le_of_ble_eq_true rfl) (Nat.le_of_ble_eq_true rfl) (htl _ mw_188) (fun _ h9 => h9) dX13_count_162 ?_
    refine lv_iconst (v := 5) hx hb dX13_count_165 (by decide) ?_
    refine mz_iald hx hb hK hM 3 (Nat.le_of_ble_eq_true rfl) rfl (nn := 5560) rfl (I := 5) (by decide) (by decide) (by decide) dX13_count_166 (fun v28 hf27 => ?_)
    have hf27 : Ra 3 5 = v28 := hf27
    have hq_v28 := tk_rng v28
    have hr_v28 : (-1) ≤ v28.toInt ∧ v28.toInt ≤ 5 := by have h9 := mz_r3c 5 (hIR.at 3) hf27 (by decide); unfold mE at h9; omega
    exact mz_iret (v := v28) hx hb hr rfl hlocks ⟨hIF, hIG, hIR, hFF, (fun _ _ => rfl), (fun _ _ => rfl)⟩ hM hS dX13_count_167
  · refine lv_tableIn (off := 162) (tgt := 168) hx hb dX13_count_6 (by omega) (by omega) (by rw [hsw]; rfl) (by decide) ?_
    refine lv_aload_n hx hb dX13_count_168 rfl (lv_at hl 0 rfl) ?_
    refine mz_getR hx hb htl hown hK hM 3 (Nat.le_of_ble_eq_true rfl) (Nat.le_of_ble_eq_true rfl) (htl _ mw_188) (fun _ h9 => h9) dX13_count_169 ?_
    refine lv_bipush (v := 10) hx hb dX13_count_172 (by decide) ?_
    refine mz_iald hx hb hK hM 3 (Nat.le_of_ble_eq_true rfl) rfl (nn := 5560) rfl (I := 10) (by decide) (by decide) (by decide) dX13_count_174 (fun v30 hf29 => ?_)
    have hf29 : Ra 3 10 = v30 := hf29
    have hq_v30 := tk_rng v30
    exact mz_iret (v := v30) hx hb hr rfl hlocks ⟨hIF, hIG, hIR, hFF, (fun _ _ => rfl), (fun _ _ => rfl)⟩ hM hS dX13_count_175
  · refine lv_tableIn (off := 170) (tgt := 176) hx hb dX13_count_6 (by omega) (by omega) (by rw [hsw]; rfl) (by decide) ?_
    refine lv_aload_n hx hb dX13_count_176 rfl (lv_at hl 0 rfl) ?_
    refine mz_getR hx hb htl hown hK hM 3 (Nat.le_of_ble_eq_true rfl) (Nat.le_of_ble_eq_true rfl) (htl _ mw_188) (fun _ h9 => h9) dX13_count_177 ?_
    refine lv_bipush (v := 11) hx hb dX13_count_180 (by decide) ?_
    refine mz_iald hx hb hK hM 3 (Nat.le_of_ble_eq_true rfl) rfl (nn := 5560) rfl (I := 11) (by decide) (by decide) (by decide) dX13_count_182 (fun v32 hf31 => ?_)
    have hf31 : Ra 3 11 = v32 := hf31
    have hq_v32 := tk_rng v32
    exact mz_iret (v := v32) hx hb hr rfl hlocks ⟨hIF, hIG, hIR, hFF, (fun _ _ => rfl), (fun _ _ => rfl)⟩ hM hS dX13_count_183
  · refine lv_tableOut (tgt := 184) hx hb dX13_count_6 (by omega) (by decide) ?_
    refine lv_iload_n hx hb dX13_count_184 rfl (lv_at hl 1 rfl) ?_
    obtain ⟨w33, e_w33, h_w33⟩ : ∃ z : Int64, p1.toInt64 = z ∧ z.toInt = p1.toInt := ⟨_, rfl, fl_w _⟩
    refine lv_i2l (v := w33) hx hb dX13_count_185 e_w33 ?_
    refine lv_ldc2 hx hb hown (htl _ mw_1737) dX13_count_186 ?_
    refine lv_ldc2 hx hb hown (htl _ mw_1738) dX13_count_189 ?_
    have hk_15 : (15 : Int64).toInt = 15 := by decide
    have hk_18 : (18 : Int64).toInt = 18 := by decide
    refine mz_Sj (As := [.long w33, .long 15, .long 18]) (rest := []) ⟨hx, hb, hml, hown, hts⟩ hK hM hS (k_X13_in l D cy ld ad am hD _ _ _ _ w33 15 18) ⟨callB_of 3 hts (wl_in mw_292) rfl rfl rfl (htl _ mw_5) (htl _ mw_290) hd_yX13_in ⟨(Nat.le_of_ble_eq_true rfl), (Nat.le_of_ble_eq_true rfl)⟩, htl _ mw_291⟩ rfl hl.1 rfl (Nat.le_of_ble_eq_true rfl) dX13_count_192 ⟨(Nat.le_of_ble_eq_true rfl), (Nat.le_of_ble_eq_true rfl)⟩ (fun v34 H locs hpo hM hS => ?_)
    obtain ⟨hpo35, hpo36, hpo37, hpo38, hpo39, hpo40⟩ := hpo
    have hq_v34 := tk_rng v34
    refine lv_if_eq (tgt := 213) hx hb dX13_count_195 (by decide) (fun c9 => ?_) (fun c9 => ?_)
    · have hc42 : v34.toInt = 0 := (fi_eq rfl (show (0 : Int32).toInt = 0 by decide)).mp c9
      refine lv_iconst (v := (-1)) hx hb dX13_count_213 (by decide) ?_
      have hk_m1 : ((-1) : Int32).toInt = (-1) := by decide
      exact mz_iret (v := (-1)) hx hb hr rfl hlocks ⟨hIF, hIG, hIR, hFF, (fun _ _ => rfl), (fun _ _ => rfl)⟩ hM hS dX13_count_214
    · have hc42 : ¬ (v34.toInt = 0) := fun h9 => c9 ((fi_eq rfl (show (0 : Int32).toInt = 0 by decide)).mpr h9)
      exfalso
      omega
  · refine lv_tableOut (tgt := 184) hx hb dX13_count_6 (by omega) (by decide) ?_
    refine lv_iload_n hx hb dX13_count_184 rfl (lv_at hl 1 rfl) ?_
    obtain ⟨w43, e_w43, h_w43⟩ : ∃ z : Int64, p1.toInt64 = z ∧ z.toInt = p1.toInt := ⟨_, rfl, fl_w _⟩
    refine lv_i2l (v := w43) hx hb dX13_count_185 e_w43 ?_
    refine lv_ldc2 hx hb hown (htl _ mw_1737) dX13_count_186 ?_
    refine lv_ldc2 hx hb hown (htl _ mw_1738) dX13_count_189 ?_
    have hk_15 : (15 : Int64).toInt = 15 := by decide
    have hk_18 : (18 : Int64).toInt = 18 := by decide
    refine mz_Sj (As := [.long w43, .long 15, .long 18]) (rest := []) ⟨hx, hb, hml, hown, hts⟩ hK hM hS (k_X13_in l D cy ld ad am hD _ _ _ _ w43 15 18) ⟨callB_of 3 hts (wl_in mw_292) rfl rfl rfl (htl _ mw_5) (htl _ mw_290) hd_yX13_in ⟨(Nat.le_of_ble_eq_true rfl), (Nat.le_of_ble_eq_true rfl)⟩, htl _ mw_291⟩ rfl hl.1 rfl (Nat.le_of_ble_eq_true rfl) dX13_count_192 ⟨(Nat.le_of_ble_eq_true rfl), (Nat.le_of_ble_eq_true rfl)⟩ (fun v44 H locs hpo hM hS => ?_)
    obtain ⟨hpo45, hpo46, hpo47, hpo48, hpo49, hpo50⟩ := hpo
    have hq_v44 := tk_rng v44
    refine lv_if_eq (tgt := 213) hx hb dX13_count_195 (by decide) (fun c9 => ?_) (fun c9 => ?_)
    · have hc52 : v44.toInt = 0 := (fi_eq rfl (show (0 : Int32).toInt = 0 by decide)).mp c9
      refine lv_iconst (v := (-1)) hx hb dX13_count_213 (by decide) ?_
      have hk_m1 : ((-1) : Int32).toInt = (-1) := by decide
      exact mz_iret (v := (-1)) hx hb hr rfl hlocks ⟨hIF, hIG, hIR, hFF, (fun _ _ => rfl), (fun _ _ => rfl)⟩ hM hS dX13_count_214
    · have hc52 : ¬ (v44.toInt = 0) := fun h9 => c9 ((fi_eq rfl (show (0 : Int32).toInt = 0 by decide)).mpr h9)
      refine lv_aload_n hx hb dX13_count_198 rfl (lv_at hl 0 rfl) ?_
      refine mz_getR hx hb htl hown hK hM 3 (Nat.le_of_ble_eq_true rfl) (Nat.le_of_ble_eq_true rfl) (htl _ mw_188) (fun _ h9 => h9) dX13_count_199 ?_
      refine lv_bipush (v := 6) hx hb dX13_count_202 (by decide) ?_
      refine lv_iload_n hx hb dX13_count_204 rfl (lv_at hl 1 rfl) ?_
      refine lv_iadd hx hb dX13_count_205 ?_
      refine tk_add (show (6 : Int32).toInt = 6 by decide) rfl (by omega) (by omega) (fun v53 h_v53 => ?_)
      refine lv_bipush (v := 15) hx hb dX13_count_206 (by decide) ?_
      refine lv_isub hx hb dX13_count_208 ?_
      refine tk_sub rfl (show (15 : Int32).toInt = 15 by decide) (by omega) (by omega) (fun v54 h_v54 => ?_)
      refine mz_iald hx hb hK hM 3 (Nat.le_of_ble_eq_true rfl) rfl (nn := 5560) rfl rfl (by omega) (by omega) dX13_count_209 (fun v55 e_v55 => ?_)
      have hq_v55 := tk_rng v55
      refine lv_goto (tgt := 214) hx hb dX13_count_210 (by decide) ?_
      exact mz_iret (v := v55) hx hb hr rfl hlocks ⟨hIF, hIG, hIR, hFF, (fun _ _ => rfl), (fun _ _ => rfl)⟩ hM hS dX13_count_214
