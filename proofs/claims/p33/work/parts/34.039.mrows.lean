theorem dX13_isWord_0 : decode cX13_isWord 0 = .ok (.aload_n 0, 1) := by decide +kernel
theorem dX13_isWord_1 : decode cX13_isWord 1 = .ok (.getfield 256, 3) := by decide +kernel
theorem dX13_isWord_4 : decode cX13_isWord 4 = .ok (.iconst 1, 1) := by decide +kernel
theorem dX13_isWord_5 : decode cX13_isWord 5 = .ok (.if_icmp .ne 16, 3) := by decide +kernel
theorem dX13_isWord_21 : decode cX13_isWord 21 = .ok (.iconst 0, 1) := by decide +kernel
theorem dX13_isWord_22 : decode cX13_isWord 22 = .ok (.ireturn, 1) := by decide +kernel
theorem dX13_isWord_8 : decode cX13_isWord 8 = .ok (.aload_n 0, 1) := by decide +kernel
theorem dX13_isWord_9 : decode cX13_isWord 9 = .ok (.getfield 246, 3) := by decide +kernel
theorem dX13_isWord_12 : decode cX13_isWord 12 = .ok (.lload_n 1, 1) := by decide +kernel
theorem dX13_isWord_13 : decode cX13_isWord 13 = .ok (.lcmp, 1) := by decide +kernel
theorem dX13_isWord_14 : decode cX13_isWord 14 = .ok (.ifCond .ne 7, 3) := by decide +kernel
theorem dX13_isWord_17 : decode cX13_isWord 17 = .ok (.iconst 1, 1) := by decide +kernel
theorem dX13_isWord_18 : decode cX13_isWord 18 = .ok (.goto 4, 3) := by decide +kernel
set_option maxHeartbeats 4000000 in
set_option maxRecDepth 100000 in
theorem k_X13_isWord (l : Launch) (D : va_G) (cy : Nat → ClassId) (ld ad : Nat → Nat) (am : Nat) (hD : mz_D ad am) (Fa : Nat → Int32) (Ga : Nat → Int64) (Ra : Nat → Nat → Int32) (Sa : Nat → Nat → Int64) (p1 : Int64) (gs : Int32) (gw : Int64) (hIF : mz_IF false Fa) (hIG : mz_IG Ga) (hIR : mz_IR [] true Ra) (hg_0 : Fa 16 = gs) (hg_1 : Ga 17 = gw) : Met l yX13_isWord (wl yX13_isWord cX13_isWord 3 (some .boolean)) ({ frames := 3, cells := 0, slots := 0, locals := 140 }) (mz_p D cy ld ad am Fa Ga Ra Sa [.ref am, .long p1]) (mz_j D cy ad am Fa Ga Ra Sa (fun r => (1 ≤ r.toInt → gw.toInt + (-1) * p1.toInt = 0 ∧ gs.toInt + (-1) = 0) ∧ 0 ≤ r.toInt ∧ r.toInt ≤ 1 ∧ 0 ≤ r.toInt ∧ r.toInt ≤ 1)) 0 0 (mz_W ad am) := by
  refine mz_met (y := yX13_isWord) (cc := cX13_isWord) (maxL := 3) (ret := (some .boolean)) (av := [.ref am, .long p1]) _ (by decide) (Nat.le_of_ble_eq_true rfl) ?_
  intro p e s m args below meth c hx hb hr hml hts htl hown hlocks hK H locs hM hS ls hl
  have hown : s.vm.findClass RX13 = some m.cls := hown
  have hl : lv_has ls 3 [(0, .ref am), (1, .long p1)] := hl
  have hq_gs := tk_rng gs
  have hq_gw := tk_rngL gw
  have hr_gs : 0 ≤ gs.toInt ∧ gs.toInt ≤ 3 := hIF.at hg_0
  refine lv_aload_n hx hb dX13_isWord_0 rfl (lv_at hl 0 rfl) ?_
  refine mz_getI hx hb htl hown hK hM 16 (Nat.le_of_ble_eq_true rfl) rfl (htl _ mw_688) (fun _ h9 => h9) dX13_isWord_1 (fun v9 e9 => ?_)
  refine fx_ti (v := gs) (e9.symm.trans hg_0) ?_
  refine lv_iconst (v := 1) hx hb dX13_isWord_4 (by decide) ?_
  refine lv_icmp_ne (tgt := 21) hx hb dX13_isWord_5 (by decide) (fun c9 => ?_) (fun c9 => ?_)
  · have hc1 : ¬ (gs.toInt = 1) := fun h9 => c9 ((fi_eq rfl (show (1 : Int32).toInt = 1 by decide)).mpr h9)
    refine lv_iconst (v := 0) hx hb dX13_isWord_21 (by decide) ?_
    have hk_0 : (0 : Int32).toInt = 0 := by decide
    exact mz_jret (v := 0) hx hb hr rfl hlocks ⟨(by omega), (by omega), (by omega), (by omega), (by omega)⟩ hM hS dX13_isWord_22
  · have hc1 : gs.toInt = 1 := (fi_eq rfl (show (1 : Int32).toInt = 1 by decide)).mp c9
    refine lv_aload_n hx hb dX13_isWord_8 rfl (lv_at hl 0 rfl) ?_
    refine mz_getJ hx hb htl hown hK hM 17 (Nat.le_of_ble_eq_true rfl) rfl (htl _ mw_687) (fun _ h9 => h9) dX13_isWord_9 (fun v9 e9 => ?_)
    refine fx_tl (v := gw) (e9.symm.trans hg_1) ?_
    refine lv_lload_n hx hb dX13_isWord_12 rfl (lv_at hl 1 rfl) ?_
    refine W.lcmp hx hb dX13_isWord_13 ?_
    refine lv_if_ne (tgt := 21) hx hb dX13_isWord_14 (by decide) (fun c9 => ?_) (fun c9 => ?_)
    · have hc2 : ¬ (gw.toInt = p1.toInt) := fun h9 => c9 (((lg_cmp_eq _ _).trans (fl_eq rfl rfl)).mpr h9)
      refine lv_iconst (v := 0) hx hb dX13_isWord_21 (by decide) ?_
      have hk_0 : (0 : Int32).toInt = 0 := by decide
      exact mz_jret (v := 0) hx hb hr rfl hlocks ⟨(by omega), (by omega), (by omega), (by omega), (by omega)⟩ hM hS dX13_isWord_22
    · have hc2 : gw.toInt = p1.toInt := ((lg_cmp_eq _ _).trans (fl_eq rfl rfl)).mp c9
      refine lv_iconst (v := 1) hx hb dX13_isWord_17 (by decide) ?_
      refine lv_goto (tgt := 22) hx hb dX13_isWord_18 (by decide) ?_
      have hk_1 : (1 : Int32).toInt = 1 := by decide
      exact mz_jret (v := 1) hx hb hr rfl hlocks ⟨(by omega), (by omega), (by omega), (by omega), (by omega)⟩ hM hS dX13_isWord_22
