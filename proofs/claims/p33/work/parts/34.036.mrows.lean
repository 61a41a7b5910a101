theorem dX13_isDigit_0 : decode cX13_isDigit 0 = .ok (.iload_n 0, 1) := by decide +kernel
theorem dX13_isDigit_1 : decode cX13_isDigit 1 = .ok (.bipush 48, 2) := by decide +kernel
theorem dX13_isDigit_3 : decode cX13_isDigit 3 = .ok (.if_icmp .lt 13, 3) := by decide +kernel
theorem dX13_isDigit_16 : decode cX13_isDigit 16 = .ok (.iconst 0, 1) := by decide +kernel
theorem dX13_isDigit_17 : decode cX13_isDigit 17 = .ok (.ireturn, 1) := by decide +kernel
theorem dX13_isDigit_6 : decode cX13_isDigit 6 = .ok (.iload_n 0, 1) := by decide +kernel
theorem dX13_isDigit_7 : decode cX13_isDigit 7 = .ok (.bipush 57, 2) := by decide +kernel
theorem dX13_isDigit_9 : decode cX13_isDigit 9 = .ok (.if_icmp .gt 7, 3) := by decide +kernel
theorem dX13_isDigit_12 : decode cX13_isDigit 12 = .ok (.iconst 1, 1) := by decide +kernel
theorem dX13_isDigit_13 : decode cX13_isDigit 13 = .ok (.goto 4, 3) := by decide +kernel
set_option maxHeartbeats 4000000 in
set_option maxRecDepth 100000 in
theorem k_X13_isDigit (l : Launch) (D : va_G) (cy : Nat → ClassId) (ld ad : Nat → Nat) (am : Nat) (hD : mz_D ad am) (Fa : Nat → Int32) (Ga : Nat → Int64) (Ra : Nat → Nat → Int32) (Sa : Nat → Nat → Int64) (p0 : Int32) : Met l yX13_isDigit (wl yX13_isDigit cX13_isDigit 1 (some .boolean)) ({ frames := 3, cells := 0, slots := 0, locals := 140 }) (mz_p D cy ld ad am Fa Ga Ra Sa [.int p0]) (mz_j D cy ad am Fa Ga Ra Sa (fun r => (1 ≤ r.toInt → 48 ≤ p0.toInt ∧ p0.toInt ≤ 57) ∧ (r.toInt ≤ 0 → 48 ≤ p0.toInt → 58 ≤ p0.toInt) ∧ 0 ≤ r.toInt ∧ r.toInt ≤ 1 ∧ 0 ≤ r.toInt ∧ r.toInt ≤ 1)) 0 0 (mz_W ad am) := by
  refine mz_met (y := yX13_isDigit) (cc := cX13_isDigit) (maxL := 1) (ret := (some .boolean)) (av := [.int p0]) _ (by decide) (Nat.le_of_ble_eq_true rfl) ?_
  intro p e s m args below meth c hx hb hr hml hts htl hown hlocks hK H locs hM hS ls hl
  have hown : s.vm.findClass RX13 = some m.cls := hown
  have hl : lv_has ls 1 [(0, .int p0)] := hl
  have hr_p0 := tk_rng p0
  refine lv_iload_n hx hb dX13_isDigit_0 rfl (lv_at hl 0 rfl) ?_
  refine lv_bipush (v := 48) hx hb dX13_isDigit_1 (by decide) ?_
  refine lv_icmp_lt (tgt := 16) hx hb dX13_isDigit_3 (by decide) (fun c9 => ?_) (fun c9 => ?_)
  · have hc1 : p0.toInt < 48 := (fi_lt rfl (show (48 : Int32).toInt = 48 by decide)).mp c9
    refine lv_iconst (v := 0) hx hb dX13_isDigit_16 (by decide) ?_
    have hk_0 : (0 : Int32).toInt = 0 := by decide
    exact mz_jret (v := 0) hx hb hr rfl hlocks ⟨(by omega), (by omega), (by omega), (by omega), (by omega), (by omega)⟩ hM hS dX13_isDigit_17
  · have hc1 : ¬ (p0.toInt < 48) := fun h9 => c9 ((fi_lt rfl (show (48 : Int32).toInt = 48 by decide)).mpr h9)
    refine lv_iload_n hx hb dX13_isDigit_6 rfl (lv_at hl 0 rfl) ?_
    refine lv_bipush (v := 57) hx hb dX13_isDigit_7 (by decide) ?_
    refine lv_icmp_gt (tgt := 16) hx hb dX13_isDigit_9 (by decide) (fun c9 => ?_) (fun c9 => ?_)
    · have hc2 : 57 < p0.toInt := (fi_lt (show (57 : Int32).toInt = 57 by decide) rfl).mp c9
      refine lv_iconst (v := 0) hx hb dX13_isDigit_16 (by decide) ?_
      have hk_0 : (0 : Int32).toInt = 0 := by decide
      exact mz_jret (v := 0) hx hb hr rfl hlocks ⟨(by omega), (by omega), (by omega), (by omega), (by omega), (by omega)⟩ hM hS dX13_isDigit_17
    · have hc2 : ¬ (57 < p0.toInt) := fun h9 => c9 ((fi_lt (show (57 : Int32).toInt = 57 by decide) rfl).mpr h9)
      refine lv_iconst (v := 1) hx hb dX13_isDigit_12 (by decide) ?_
      refine lv_goto (tgt := 17) hx hb dX13_isDigit_13 (by decide) ?_
      have hk_1 : (1 : Int32).toInt = 1 := by decide
      exact mz_jret (v := 1) hx hb hr rfl hlocks ⟨(by omega), (by omega), (by omega), (by omega), (by omega), (by omega)⟩ hM hS dX13_isDigit_17
