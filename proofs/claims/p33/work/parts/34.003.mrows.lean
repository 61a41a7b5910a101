theorem dX13_within_0 : decode cX13_within 0 = .ok (.lload_n 0, 1) := by decide +kernel
theorem dX13_within_1 : decode cX13_within 1 = .ok (.iload_n 2, 1) := by decide +kernel
theorem dX13_within_2 : decode cX13_within 2 = .ok (.i2l, 1) := by decide +kernel
theorem dX13_within_3 : decode cX13_within 3 = .ok (.lcmp, 1) := by decide +kernel
theorem dX13_within_4 : decode cX13_within 4 = .ok (.ifCond .ge 7, 3) := by decide +kernel
theorem dX13_within_11 : decode cX13_within 11 = .ok (.lload_n 0, 1) := by decide +kernel
theorem dX13_within_12 : decode cX13_within 12 = .ok (.iload_n 3, 1) := by decide +kernel
theorem dX13_within_13 : decode cX13_within 13 = .ok (.i2l, 1) := by decide +kernel
theorem dX13_within_14 : decode cX13_within 14 = .ok (.lcmp, 1) := by decide +kernel
theorem dX13_within_15 : decode cX13_within 15 = .ok (.ifCond .le 7, 3) := by decide +kernel
theorem dX13_within_22 : decode cX13_within 22 = .ok (.lload_n 0, 1) := by decide +kernel
theorem dX13_within_23 : decode cX13_within 23 = .ok (.l2i, 1) := by decide +kernel
theorem dX13_within_24 : decode cX13_within 24 = .ok (.ireturn, 1) := by decide +kernel
theorem dX13_within_18 : decode cX13_within 18 = .ok (.iload_n 3, 1) := by decide +kernel
theorem dX13_within_19 : decode cX13_within 19 = .ok (.goto 5, 3) := by decide +kernel
theorem dX13_within_7 : decode cX13_within 7 = .ok (.iload_n 2, 1) := by decide +kernel
theorem dX13_within_8 : decode cX13_within 8 = .ok (.goto 16, 3) := by decide +kernel
set_option maxHeartbeats 4000000 in
set_option maxRecDepth 100000 in
theorem k_X13_within (l : Launch) (D : va_G) (cy : Nat → ClassId) (ld ad : Nat → Nat) (am : Nat) (hD : mz_D ad am) (Fa : Nat → Int32) (Ga : Nat → Int64) (Ra : Nat → Nat → Int32) (Sa : Nat → Nat → Int64) (p0 : Int64) (p1 : Int32) (p2 : Int32) (hp_0 : 0 ≤ (-1) * p1.toInt + p2.toInt) : Met l yX13_within (wl yX13_within cX13_within 4 (some .int)) ({ frames := 3, cells := 0, slots := 0, locals := 140 }) (mz_p D cy ld ad am Fa Ga Ra Sa [.long p0, .int p1, .int p2]) (mz_j D cy ad am Fa Ga Ra Sa (fun r => 0 ≤ (-1) * p1.toInt + r.toInt ∧ 0 ≤ p2.toInt + (-1) * r.toInt)) 0 0 (mz_W ad am) := by
  refine mz_met (y := yX13_within) (cc := cX13_within) (maxL := 4) (ret := (some .int)) (av := [.long p0, .int p1, .int p2]) _ (by decide) (Nat.le_of_ble_eq_true rfl) ?_
  intro p e s m args below meth c hx hb hr hml hts htl hown hlocks hK H locs hM hS ls hl
  have hown : s.vm.findClass RX13 = some m.cls := hown
  have hl : lv_has ls 4 [(0, .long p0), (2, .int p1), (3, .int p2)] := hl
  have hr_p1 := tk_rng p1
  have hr_p2 := tk_rng p2
  refine lv_lload_n hx hb dX13_within_0 rfl (lv_at hl 0 rfl) ?_
  refine lv_iload_n hx hb dX13_within_1 rfl (lv_at hl 1 rfl) ?_
  obtain ⟨w1, e_w1, h_w1⟩ : ∃ z : Int64, p1.toInt64 = z ∧ z.toInt = p1.toInt := ⟨_, rfl, fl_w _⟩
  refine lv_i2l (v := w1) hx hb dX13_within_2 e_w1 ?_
  refine W.lcmp hx hb dX13_within_3 ?_
  refine lv_if_ge (tgt := 11) hx hb dX13_within_4 (by decide) (fun c9 => ?_) (fun c9 => ?_)
  · have hc2 : w1.toInt ≤ p0.toInt := ((lg_cmp_ge _ _).trans (fl_le rfl rfl)).mp c9
    refine lv_lload_n hx hb dX13_within_11 rfl (lv_at hl 0 rfl) ?_
    refine lv_iload_n hx hb dX13_within_12 rfl (lv_at hl 2 rfl) ?_
    obtain ⟨w3, e_w3, h_w3⟩ : ∃ z : Int64, p2.toInt64 = z ∧ z.toInt = p2.toInt := ⟨_, rfl, fl_w _⟩
    refine lv_i2l (v := w3) hx hb dX13_within_13 e_w3 ?_
    refine W.lcmp hx hb dX13_within_14 ?_
    refine lv_if_le (tgt := 22) hx hb dX13_within_15 (by decide) (fun c9 => ?_) (fun c9 => ?_)
    · have hc4 : p0.toInt ≤ w3.toInt := ((lg_cmp_le _ _).trans (fl_le rfl rfl)).mp c9
      refine lv_lload_n hx hb dX13_within_22 rfl (lv_at hl 0 rfl) ?_
      obtain ⟨v5, e_v5, h_v5⟩ : ∃ z : Int32, p0.toInt32 = z ∧ z.toInt = p0.toInt := ⟨_, rfl, tk_l2i (by omega) (by omega)⟩
      refine lv_l2i (v := v5) hx hb dX13_within_23 e_v5 ?_
      exact mz_jret (v := v5) hx hb hr rfl hlocks ⟨(by omega), (by omega)⟩ hM hS dX13_within_24
    · have hc4 : ¬ (p0.toInt ≤ w3.toInt) := fun h9 => c9 (((lg_cmp_le _ _).trans (fl_le rfl rfl)).mpr h9)
      refine lv_iload_n hx hb dX13_within_18 rfl (lv_at hl 2 rfl) ?_
      refine lv_goto (tgt := 24) hx hb dX13_within_19 (by decide) ?_
      exact mz_jret (v := p2) hx hb hr rfl hlocks ⟨(by omega), (by omega)⟩ hM hS dX13_within_24
  · have hc2 : ¬ (w1.toInt ≤ p0.toInt) := fun h9 => c9 (((lg_cmp_ge _ _).trans (fl_le rfl rfl)).mpr h9)
    refine lv_iload_n hx hb dX13_within_7 rfl (lv_at hl 1 rfl) ?_
    refine lv_goto (tgt := 24) hx hb dX13_within_8 (by decide) ?_
    exact mz_jret (v := p1) hx hb hr rfl hlocks ⟨(by omega), (by omega)⟩ hM hS dX13_within_24
