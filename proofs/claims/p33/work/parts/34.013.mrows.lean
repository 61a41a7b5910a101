theorem dX13_inDuel_0 : decode cX13_inDuel 0 = .ok (.aload_n 0, 1) := by decide +kernel
theorem dX13_inDuel_1 : decode cX13_inDuel 1 = .ok (.getfield 13, 3) := by decide +kernel
theorem dX13_inDuel_4 : decode cX13_inDuel 4 = .ok (.bipush 12, 2) := by decide +kernel
theorem dX13_inDuel_6 : decode cX13_inDuel 6 = .ok (.iload_n 1, 1) := by decide +kernel
theorem dX13_inDuel_7 : decode cX13_inDuel 7 = .ok (.iadd, 1) := by decide +kernel
theorem dX13_inDuel_8 : decode cX13_inDuel 8 = .ok (.iaload, 1) := by decide +kernel
theorem dX13_inDuel_9 : decode cX13_inDuel 9 = .ok (.ireturn, 1) := by decide +kernel
set_option maxHeartbeats 4000000 in
set_option maxRecDepth 100000 in
theorem k_X13_inDuel (l : Launch) (D : va_G) (cy : Nat → ClassId) (ld ad : Nat → Nat) (am : Nat) (hD : mz_D ad am) (Fa : Nat → Int32) (Ga : Nat → Int64) (Ra : Nat → Nat → Int32) (Sa : Nat → Nat → Int64) (p1 : Int32) (hIF : mz_IF false Fa) (hIG : mz_IG Ga) (hIR : mz_IR [] true Ra) (hp_0 : 0 ≤ p1.toInt) (hp_1 : p1.toInt ≤ 5) : Met l yX13_inDuel (wl yX13_inDuel cX13_inDuel 2 (some .int)) ({ frames := 3, cells := 0, slots := 0, locals := 140 }) (mz_p D cy ld ad am Fa Ga Ra Sa [.ref am, .int p1]) (mz_j D cy ad am Fa Ga Ra Sa (fun r => True)) 0 0 (mz_W ad am) := by
  refine mz_met (y := yX13_inDuel) (cc := cX13_inDuel) (maxL := 2) (ret := (some .int)) (av := [.ref am, .int p1]) _ (by decide) (Nat.le_of_ble_eq_true rfl) ?_
  intro p e s m args below meth c hx hb hr hml hts htl hown hlocks hK H locs hM hS ls hl
  have hown : s.vm.findClass RX13 = some m.cls := hown
  have hl : lv_has ls 2 [(0, .ref am), (1, .int p1)] := hl
  have hr_p1 := tk_rng p1
  refine lv_aload_n hx hb dX13_inDuel_0 rfl (lv_at hl 0 rfl) ?_
  refine mz_getR hx hb htl hown hK hM 3 (Nat.le_of_ble_eq_true rfl) (Nat.le_of_ble_eq_true rfl) (htl _ mw_188) (fun _ h9 => h9) dX13_inDuel_1 ?_
  refine lv_bipush (v := 12) hx hb dX13_inDuel_4 (by decide) ?_
  refine lv_iload_n hx hb dX13_inDuel_6 rfl (lv_at hl 1 rfl) ?_
  refine lv_iadd hx hb dX13_inDuel_7 ?_
  refine tk_add (show (12 : Int32).toInt = 12 by decide) rfl (by omega) (by omega) (fun v1 h_v1 => ?_)
  refine mz_iald hx hb hK hM 3 (Nat.le_of_ble_eq_true rfl) rfl (nn := 5560) rfl rfl (by omega) (by omega) dX13_inDuel_8 (fun v2 e_v2 => ?_)
  have hq_v2 := tk_rng v2
  exact mz_jret (v := v2) hx hb hr rfl hlocks trivial hM hS dX13_inDuel_9
