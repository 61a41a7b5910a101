theorem dX13_isSmall_0 : decode cX13_isSmall 0 = .ok (.iload_n 0, 1) := by decide +kernel
theorem dX13_isSmall_1 : decode cX13_isSmall 1 = .ok (.bipush 97, 2) := by decide +kernel
theorem dX13_isSmall_3 : decode cX13_isSmall 3 = .ok (.if_icmp .lt 13, 3) := by decide +kernel
theorem dX13_isSmall_16 : decode cX13_isSmall 16 = .ok (.iconst 0, 1) := by decide +kernel
theorem dX13_isSmall_17 : decode cX13_isSmall 17 = .ok (.ireturn, 1) := by decide +kernel
theorem dX13_isSmall_6 : decode cX13_isSmall 6 = .ok (.iload_n 0, 1) := by decide +kernel
theorem dX13_isSmall_7 : decode cX13_isSmall 7 = .ok (.bipush 122, 2) := by decide +kernel
theorem dX13_isSmall_9 : decode cX13_isSmall 9 = .ok (.if_icmp .gt 7, 3) := by decide +kernel
theorem dX13_isSmall_12 : decode cX13_isSmall 12 = .ok (.iconst 1, 1) := by decide +kernel
theorem dX13_isSmall_13 : decode cX13_isSmall 13 = .ok (.goto 4, 3) := by decide +kernel
set_option maxHeartbeats 4000000 in
set_option maxRecDepth 100000 in
theorem k_X13_isSmall (l : Launch) (D : va_G) (cy : Nat → ClassId) (ld ad : Nat → Nat) (am : Nat) (hD : mz_D ad am) (Fa : Nat → Int32) (Ga : Nat → Int64) (Ra : Nat → Nat → Int32) (Sa : Nat → Nat → Int64) (p0 : Int32) : Met l yX13_isSmall (wl yX13_isSmall cX13_isSmall 1 (some .boolean)) ({ frames := 3, cells := 0, slots := 0, locals := 140 }) (mz_p D cy ld ad am Fa Ga Ra Sa [.int p0]) (mz_j D cy ad am Fa Ga Ra Sa (fun r => (1 ≤ r.toInt → 97 ≤ p0.toInt ∧ p0.toInt ≤ 122) ∧ (r.toInt ≤ 0 → 97 ≤ p0.toInt → 123 ≤ p0.toInt) ∧ 0 ≤ r.toInt ∧ r.toInt ≤ 1 ∧ 0 ≤ r.toInt ∧ r.toInt ≤ 1)) 0 0 (mz_W ad am) := by
  refine mz_met (y := yX13_isSmall) (cc := cX13_isSmall) (maxL := 1) (ret := (some .boolean)) (av := [.int p0]) _ (by decide) (Nat.le_of_ble_eq_true rfl) ?_
  intro p e s m args below meth c hx hb hr hml hts htl hown hlocks hK H locs hM hS ls hl
  have hown : s.vm.findClass RX13 = some m.cls := hown
  have hl : lv_has ls 1 [(0, .int p0)] := hl
  have hr_p0 := tk_rng p0
  refine lv_iload_n hx hb dX13_isSmall_0 rfl (lv_at hl 0 rfl) ?_
  refine lv_bipush (v := 97) hx hb dX13_isSmall_1 (by decide) ?_
  refine lv_icmp_lt (tgt := 16) hx hb dX13_isSmall_3 (by decide) (fun c9 => ?_) (fun c9 => ?_)
  · have hc1 : p0.toInt < 97 := (fi_lt rfl (show (97 : Int32).toInt = 97 by decide)).mp c9
    refine lv_iconst (v := 0) hx hb dX13_isSmall_16 (by decide) ?_
    have hk_0 : (0 : Int32).toInt = 0 := by decide
    exact mz_jret (v := 0) hx hb hr rfl hlocks ⟨(by omega), (by omega), (by omega), (by omega), (by omega), (by omega)⟩ hM hS dX13_isSmall_17
  · have hc1 : ¬ (p0.toInt < 97) := fun h9 => c9 ((fi_lt rfl (show (97 : Int32).toInt = 97 by decide)).mpr h9)
    refine lv_iload_n hx hb dX13_isSmall_6 rfl (lv_at hl 0 rfl) ?_
    refine lv_bipush (v := 122) hx hb dX13_isSmall_7 (by decide) ?_
    refine lv_icmp_gt (tgt := 16) hx hb dX13_isSmall_9 (by decide) (fun c9 => ?_) (fun c9 => ?_)
    · have hc2 : 122 < p0.toInt := (fi_lt (show (122 : Int32).toInt = 122 by decide) rfl).mp c9
      refine lv_iconst (v := 0) hx hb dX13_isSmall_16 (by decide) ?_
      have hk_0 : (0 : Int32).toInt = 0 := by decide
      exact mz_jret (v := 0) hx hb hr rfl hlocks ⟨(by omega), (by omega), (by omega), (by omega), (by omega), (by omega)⟩ hM hS dX13_isSmall_17
    · have hc2 : ¬ (122 < p0.toInt) := fun h9 => c9 ((fi_lt (show (122 : Int32).toInt = 122 by decide) rfl).mpr h9)
      refine lv_iconst (v := 1) hx hb dX13_isSmall_12 (by decide) ?_
      refine lv_goto (tgt := 17) hx hb dX13_isSmall_13 (by decide) ?_
      have hk_1 : (1 : Int32).toInt = 1 := by decide
      exact mz_jret (v := 1) hx hb hr rfl hlocks ⟨(by omega), (by omega), (by omega), (by omega), (by omega), (by omega)⟩ hM hS dX13_isSmall_17
