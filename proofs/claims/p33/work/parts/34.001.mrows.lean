theorem dX13_is_0 : decode cX13_is 0 = .ok (.iload_n 0, 1) := by decide +kernel
theorem dX13_is_1 : decode cX13_is 1 = .ok (.iload_n 1, 1) := by decide +kernel
theorem dX13_is_2 : decode cX13_is 2 = .ok (.ishr, 1) := by decide +kernel
theorem dX13_is_3 : decode cX13_is 3 = .ok (.iconst 1, 1) := by decide +kernel
theorem dX13_is_4 : decode cX13_is 4 = .ok (.iand, 1) := by decide +kernel
theorem dX13_is_5 : decode cX13_is 5 = .ok (.iconst 1, 1) := by decide +kernel
theorem dX13_is_6 : decode cX13_is 6 = .ok (.if_icmp .ne 7, 3) := by decide +kernel
theorem dX13_is_13 : decode cX13_is 13 = .ok (.iconst 0, 1) := by decide +kernel
theorem dX13_is_14 : decode cX13_is 14 = .ok (.ireturn, 1) := by decide +kernel
theorem dX13_is_9 : decode cX13_is 9 = .ok (.iconst 1, 1) := by decide +kernel
theorem dX13_is_10 : decode cX13_is 10 = .ok (.goto 4, 3) := by decide +kernel
set_option maxHeartbeats 4000000 in
set_option maxRecDepth 100000 in
theorem k_X13_is (l : Launch) (D : va_G) (cy : Nat → ClassId) (ld ad : Nat → Nat) (am : Nat) (hD : mz_D ad am) (Fa : Nat → Int32) (Ga : Nat → Int64) (Ra : Nat → Nat → Int32) (Sa : Nat → Nat → Int64) (p0 : Int32) (p1 : Int32) : Met l yX13_is (wl yX13_is cX13_is 2 (some .boolean)) ({ frames := 3, cells := 0, slots := 0, locals := 140 }) (mz_p D cy ld ad am Fa Ga Ra Sa [.int p0, .int p1]) (mz_j D cy ad am Fa Ga Ra Sa (fun r => 0 ≤ r.toInt ∧ r.toInt ≤ 1 ∧ 0 ≤ r.toInt ∧ r.toInt ≤ 1)) 0 0 (mz_W ad am) := by
  refine mz_met (y := yX13_is) (cc := cX13_is) (maxL := 2) (ret := (some .boolean)) (av := [.int p0, .int p1]) _ (by decide) (Nat.le_of_ble_eq_true rfl) ?_
  intro p e s m args below meth c hx hb hr hml hts htl hown hlocks hK H locs hM hS ls hl
  have hown : s.vm.findClass RX13 = some m.cls := hown
  have hl : lv_has ls 2 [(0, .int p0), (1, .int p1)] := hl
  have hr_p0 := tk_rng p0
  have hr_p1 := tk_rng p1
  refine lv_iload_n hx hb dX13_is_0 rfl (lv_at hl 0 rfl) ?_
  refine lv_iload_n hx hb dX13_is_1 rfl (lv_at hl 1 rfl) ?_
  refine lv_ishr hx hb dX13_is_2 ?_
  refine tk_any (fun v1 => ?_)
  refine lv_iconst (v := 1) hx hb dX13_is_3 (by decide) ?_
  refine lv_iand hx hb dX13_is_4 ?_
  refine tk_say (P := fun z => 0 ≤ z.toInt ∧ z.toInt ≤ 1) (tk_and v1 1 (by decide) (by decide)) (fun v2 h_v2 => ?_)
  refine lv_iconst (v := 1) hx hb dX13_is_5 (by decide) ?_
  refine lv_icmp_ne (tgt := 13) hx hb dX13_is_6 (by decide) (fun c9 => ?_) (fun c9 => ?_)
  · have hc3 : ¬ (v2.toInt = 1) := fun h9 => c9 ((fi_eq rfl (show (1 : Int32).toInt = 1 by decide)).mpr h9)
    refine lv_iconst (v := 0) hx hb dX13_is_13 (by decide) ?_
    have hk_0 : (0 : Int32).toInt = 0 := by decide
    exact mz_jret (v := 0) hx hb hr rfl hlocks ⟨(by omega), (by omega), (by omega), (by omega)⟩ hM hS dX13_is_14
  · have hc3 : v2.toInt = 1 := (fi_eq rfl (show (1 : Int32).toInt = 1 by decide)).mp c9
    refine lv_iconst (v := 1) hx hb dX13_is_9 (by decide) ?_
    refine lv_goto (tgt := 14) hx hb dX13_is_10 (by decide) ?_
    have hk_1 : (1 : Int32).toInt = 1 := by decide
    exact mz_jret (v := 1) hx hb hr rfl hlocks ⟨(by omega), (by omega), (by omega), (by omega)⟩ hM hS dX13_is_14
