theorem dX13_seenBy_0 : decode cX13_seenBy 0 = .ok (.iload_n 0, 1) := by decide +kernel
theorem dX13_seenBy_1 : decode cX13_seenBy 1 = .ok (.ifCond .ne 5, 3) := by decide +kernel
theorem dX13_seenBy_6 : decode cX13_seenBy 6 = .ok (.iload_n 0, 1) := by decide +kernel
theorem dX13_seenBy_7 : decode cX13_seenBy 7 = .ok (.bipush 10, 2) := by decide +kernel
theorem dX13_seenBy_9 : decode cX13_seenBy 9 = .ok (.idiv, 1) := by decide +kernel
theorem dX13_seenBy_10 : decode cX13_seenBy 10 = .ok (.istore_n 2, 1) := by decide +kernel
theorem dX13_seenBy_11 : decode cX13_seenBy 11 = .ok (.iload_n 0, 1) := by decide +kernel
theorem dX13_seenBy_12 : decode cX13_seenBy 12 = .ok (.bipush 10, 2) := by decide +kernel
theorem dX13_seenBy_14 : decode cX13_seenBy 14 = .ok (.irem, 1) := by decide +kernel
theorem dX13_seenBy_15 : decode cX13_seenBy 15 = .ok (.iload_n 1, 1) := by decide +kernel
theorem dX13_seenBy_16 : decode cX13_seenBy 16 = .ok (.if_icmp .ne 10, 3) := by decide +kernel
theorem dX13_seenBy_26 : decode cX13_seenBy 26 = .ok (.bipush 100, 2) := by decide +kernel
theorem dX13_seenBy_28 : decode cX13_seenBy 28 = .ok (.iload_n 2, 1) := by decide +kernel
theorem dX13_seenBy_29 : decode cX13_seenBy 29 = .ok (.isub, 1) := by decide +kernel
theorem dX13_seenBy_30 : decode cX13_seenBy 30 = .ok (.ireturn, 1) := by decide +kernel
theorem dX13_seenBy_19 : decode cX13_seenBy 19 = .ok (.iload_n 2, 1) := by decide +kernel
theorem dX13_seenBy_20 : decode cX13_seenBy 20 = .ok (.bipush 100, 2) := by decide +kernel
theorem dX13_seenBy_22 : decode cX13_seenBy 22 = .ok (.isub, 1) := by decide +kernel
theorem dX13_seenBy_23 : decode cX13_seenBy 23 = .ok (.goto 7, 3) := by decide +kernel
theorem dX13_seenBy_4 : decode cX13_seenBy 4 = .ok (.iconst 0, 1) := by decide +kernel
theorem dX13_seenBy_5 : decode cX13_seenBy 5 = .ok (.ireturn, 1) := by decide +kernel
set_option maxHeartbeats 4000000 in
set_option maxRecDepth 100000 in
theorem k_X13_seenBy (l : Launch) (D : va_G) (cy : Nat → ClassId) (ld ad : Nat → Nat) (am : Nat) (hD : mz_D ad am) (Fa : Nat → Int32) (Ga : Nat → Int64) (Ra : Nat → Nat → Int32) (Sa : Nat → Nat → Int64) (p0 : Int32) (p1 : Int32) : Met l yX13_seenBy (wl yX13_seenBy cX13_seenBy 3 (some .int)) ({ frames := 3, cells := 0, slots := 0, locals := 140 }) (mz_p D cy ld ad am Fa Ga Ra Sa [.int p0, .int p1]) (mz_j D cy ad am Fa Ga Ra Sa (fun r => True)) 0 0 (mz_W ad am) := by
  refine mz_met (y := yX13_seenBy) (cc := cX13_seenBy) (maxL := 3) (ret := (some .int)) (av := [.int p0, .int p1]) _ (by decide) (Nat.le_of_ble_eq_true rfl) ?_
  intro p e s m args below meth c hx hb hr hml hts htl hown hlocks hK H locs hM hS ls hl
  have hown : s.vm.findClass RX13 = some m.cls := hown
  have hl : lv_has ls 3 [(0, .int p0), (1, .int p1)] := hl
  have hr_p0 := tk_rng p0
  have hr_p1 := tk_rng p1
  refine lv_iload_n hx hb dX13_seenBy_0 rfl (lv_at hl 0 rfl) ?_
  refine lv_if_ne (tgt := 6) hx hb dX13_seenBy_1 (by decide) (fun c9 => ?_) (fun c9 => ?_)
  · have hc1 : ¬ (p0.toInt = 0) := fun h9 => c9 ((fi_eq rfl (show (0 : Int32).toInt = 0 by decide)).mpr h9)
    refine lv_iload_n hx hb dX13_seenBy_6 rfl (lv_at hl 0 rfl) ?_
    refine lv_bipush (v := 10) hx hb dX13_seenBy_7 (by decide) ?_
    refine lv_idiv hx hb dX13_seenBy_9 (by decide) ?_
    refine tk_any (fun v2 => ?_)
    refine lv_istore_n (lv' := [(2, .int v2), (0, .int p0), (1, .int p1)]) hx hb dX13_seenBy_10 rfl hl (by decide) rfl (fun ls hl => ?_)
    refine lv_iload_n hx hb dX13_seenBy_11 rfl (lv_at hl 1 rfl) ?_
    refine lv_bipush (v := 10) hx hb dX13_seenBy_12 (by decide) ?_
    refine lv_irem hx hb dX13_seenBy_14 (by decide) ?_
    refine tk_any (fun v3 => ?_)
    refine lv_iload_n hx hb dX13_seenBy_15 rfl (lv_at hl 2 rfl) ?_
    refine lv_icmp_ne (tgt := 26) hx hb dX13_seenBy_16 (by decide) (fun c9 => ?_) (fun c9 => ?_)
    · have hc4 : ¬ (v3.toInt = p1.toInt) := fun h9 => c9 ((fi_eq rfl rfl).mpr h9)
      refine lv_bipush (v := 100) hx hb dX13_seenBy_26 (by decide) ?_
      refine lv_iload_n hx hb dX13_seenBy_28 rfl (lv_at hl 0 rfl) ?_
      refine lv_isub hx hb dX13_seenBy_29 ?_
      obtain ⟨v5, hm_v5⟩ : ∃ z : Int32, 100 - v2 = z := ⟨_, rfl⟩
      refine fx_ti hm_v5 ?_
      exact mz_jret (v := v5) hx hb hr rfl hlocks trivial hM hS dX13_seenBy_30
    · have hc4 : v3.toInt = p1.toInt := (fi_eq rfl rfl).mp c9
      refine lv_iload_n hx hb dX13_seenBy_19 rfl (lv_at hl 0 rfl) ?_
      refine lv_bipush (v := 100) hx hb dX13_seenBy_20 (by decide) ?_
      refine lv_isub hx hb dX13_seenBy_22 ?_
      obtain ⟨v6, hm_v6⟩ : ∃ z : Int32, v2 - 100 = z := ⟨_, rfl⟩
      refine fx_ti hm_v6 ?_
      refine lv_goto (tgt := 30) hx hb dX13_seenBy_23 (by decide) ?_
      exact mz_jret (v := v6) hx hb hr rfl hlocks trivial hM hS dX13_seenBy_30
  · have hc1 : p0.toInt = 0 := (fi_eq rfl (show (0 : Int32).toInt = 0 by decide)).mp c9
    refine lv_iconst (v := 0) hx hb dX13_seenBy_4 (by decide) ?_
    have hk_0 : (0 : Int32).toInt = 0 := by decide
    exact mz_jret (v := 0) hx hb hr rfl hlocks trivial hM hS dX13_seenBy_5
