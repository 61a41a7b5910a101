section
theorem dX13_in_0 : decode cX13_in 0 = .ok (.lload_n 0, 1) := by decide +kernel
theorem dX13_in_1 : decode cX13_in 1 = .ok (.lload_n 2, 1) := by decide +kernel
theorem dX13_in_2 : decode cX13_in 2 = .ok (.lcmp, 1) := by decide +kernel
theorem dX13_in_3 : decode cX13_in 3 = .ok (.ifCond .lt 14, 3) := by decide +kernel
theorem dX13_in_17 : decode cX13_in 17 = .ok (.iconst 0, 1) := by decide +kernel
theorem dX13_in_18 : decode cX13_in 18 = .ok (.ireturn, 1) := by decide +kernel
theorem dX13_in_6 : decode cX13_in 6 = .ok (.lload_n 0, 1) := by decide +kernel
theorem dX13_in_7 : decode cX13_in 7 = .ok (.lload 4, 2) := by decide +kernel
theorem dX13_in_9 : decode cX13_in 9 = .ok (.lcmp, 1) := by decide +kernel
theorem dX13_in_10 : decode cX13_in 10 = .ok (.ifCond .gt 7, 3) := by decide +kernel
theorem dX13_in_13 : decode cX13_in 13 = .ok (.iconst 1, 1) := by decide +kernel
theorem dX13_in_14 : decode cX13_in 14 = .ok (.goto 4, 3) := by decide +kernel
set_option maxHeartbeats 4000000 in
set_option maxRecDepth 100000 in
theorem k_X13_in (l : Launch) (D : va_G) (cy : Nat → ClassId) (ld ad : Nat → Nat) (am : Nat) (hD : mz_D ad am) (Fa : Nat → Int32) (Ga : Nat → Int64) (Ra : Nat → Nat → Int32) (Sa : Nat → Nat → Int64) (p0 : Int64) (p1 : Int64) (p2 : Int64) : Met l yX13_in (wl yX13_in cX13_in 6 (some .boolean)) ({ frames := 3, cells := 0, slots := 0, locals := 140 }) (mz_p D cy ld ad am Fa Ga Ra Sa [.long p0, .long p1, .long p2]) (mz_j D cy ad am Fa Ga Ra Sa (fun r => (1 ≤ r.toInt → 0 ≤ p0.toInt + (-1) * p1.toInt ∧ 0 ≤ (-1) * p0.toInt + p2.toInt) ∧ (r.toInt ≤ 0 → 0 ≤ p0.toInt + (-1) * p1.toInt → 0 ≤ p0.toInt + (-1) * p2.toInt + (-1)) ∧ 0 ≤ r.toInt ∧ r.toInt ≤ 1 ∧ 0 ≤ r.toInt ∧ r.toInt ≤ 1)) 0 0 (mz_W ad am) := by
  refine mz_met (y := yX13_in) (cc := cX13_in) (maxL := 6) (ret := (some .boolean)) (av := [.long p0, .long p1, .long p2]) _ (by decide) (Nat.le_of_ble_eq_true rfl) ?_
  intro p e s m args below meth c hx hb hr hml hts htl hown hlocks hK H locs hM hS ls hl
  have hown : s.vm.findClass RX13 = some m.cls := hown
  have hl : lv_has ls 6 [(0, .long p0), (2, .long p1), (4, .long p2)] := hl
  refine lv_lload_n hx hb dX13_in_0 rfl (lv_at hl 0 rfl) ?_
  refine lv_lload_n hx hb dX13_in_1 rfl (lv_at hl 1 rfl) ?_
  refine W.lcmp hx hb dX13_in_2 ?_
  refine lv_if_lt (tgt := 17) hx hb dX13_in_3 (by decide) (fun c9 => ?_) (fun c9 => ?_)
  · have hc1 : p0.toInt < p1.toInt := ((lg_cmp_lt _ _).trans (fl_lt rfl rfl)).mp c9
    refine lv_iconst (v := 0) hx hb dX13_in_17 (by decide) ?_
    have hk_0 : (0 : Int32).toInt = 0 := by decide
    exact mz_jret (v := 0) hx hb hr rfl hlocks ⟨(by omega), (by omega), (by omega), (by omega), (by omega), (by omega)⟩ hM hS dX13_in_18
  · have hc1 : ¬ (p0.toInt < p1.toInt) := fun h9 => c9 (((lg_cmp_lt _ _).trans (fl_lt rfl rfl)).mpr h9)
    refine lv_lload_n hx hb dX13_in_6 rfl (lv_at hl 0 rfl) ?_
    refine lv_lload hx hb dX13_in_7 (lv_at hl 2 rfl) ?_
    refine W.lcmp hx hb dX13_in_9 ?_
    refine lv_if_gt (tgt := 17) hx hb dX13_in_10 (by decide) (fun c9 => ?_) (fun c9 => ?_)
    · have hc2 : p2.toInt < p0.toInt := ((lg_cmp_gt _ _).trans (fl_lt rfl rfl)).mp c9
      refine lv_iconst (v := 0) hx hb dX13_in_17 (by decide) ?_
      have hk_0 : (0 : Int32).toInt = 0 := by decide
      exact mz_jret (v := 0) hx hb hr rfl hlocks ⟨(by omega), (by omega), (by omega), (by omega), (by omega), (by omega)⟩ hM hS dX13_in_18
    · have hc2 : ¬ (p2.toInt < p0.toInt) := fun h9 => c9 (((lg_cmp_gt _ _).trans (fl_lt rfl rfl)).mpr h9)
      refine lv_iconst (v := 1) hx hb dX13_in_13 (by decide) ?_
      refine lv_goto (tgt := 18) hx hb dX13_in_14 (by decide) ?_
      have hk_1 : (1 : Int32).toInt = 1 := by decide
      exact mz_jret (v := 1) hx hb hr rfl hlocks ⟨(by omega), (by omega), (by omega), (by omega), (by omega), (by omega)⟩ hM hS dX13_in_18
end
section
theorem dX13_is_0 : decode cX13_is 0 = .ok (.iload_n 0, 1) := by decide +kernel
theorem dX13_is_1 : decode cX13_is 1 = .ok (.iload_n 1, 1) := by decide +kernel
theorem dX13_is_2 : decode cX13_is 2 = .ok (.ishr, 1) := by decide +kernel
theorem dX13_is_3 : decode cX13_is 3 = .ok (.iconst 1, 1) := by decide +kernel
theorem dX13_is_4 : decode cX13_is 4 = .ok (.iand, 1) := by decide +kernel
theorem dX13_is_5 : decode cX13_is 5 = .ok (.iconst 1, 1) := by decide +kernel
theorem dX13_is_6 : decode cX13_is 6 = .ok (.if_icmp .ne 7, 3) := by decide +kernel
theorem dX13_is_13 : decode cX13_is 13 = .ok (.iconst 0, 1) := by decide +kernel
theorem dX13_is_14 : decode cX13_is 14 = .ok (.ireturn, 1) := by decide +kernel
theorem dX13_is_9 : decode cX13_is 9 = .ok (.iconst 1, 1) := by decide +kernel
theorem dX13_is_10 : decode cX13_is 10 = .ok (.goto 4, 3) := by decide +kernel
set_option maxHeartbeats 4000000 in
set_option maxRecDepth 100000 in
theorem k_X13_is (l : Launch) (D : va_G) (cy : Nat → ClassId) (ld ad : Nat → Nat) (am : Nat) (hD : mz_D ad am) (Fa : Nat → Int32) (Ga : Nat → Int64) (Ra : Nat → Nat → Int32) (Sa : Nat → Nat → Int64) (p0 : Int32) (p1 : Int32) : Met l yX13_is (wl yX13_is cX13_is 2 (some .boolean)) ({ frames := 3, cells := 0, slots := 0, locals := 140 }) (mz_p D cy ld ad am Fa Ga Ra Sa [.int p0, .int p1]) (mz_j D cy ad am Fa Ga Ra Sa (fun r => 0 ≤ r.toInt ∧ r.toInt ≤ 1 ∧ 0 ≤ r.toInt ∧ r.toInt ≤ 1)) 0 0 (mz_W ad am) := by
  refine mz_met (y := yX13_is) (cc := cX13_is) (maxL := 2) (ret := (some .boolean)) (av := [.int p0, .int p1]) _ (by decide) (Nat.le_of_ble_eq_true rfl) ?_
  intro p e s m args below meth c hx hb hr hml hts htl hown hlocks hK H locs hM hS ls hl
  have hown : s.vm.findClass RX13 = some m.cls := hown
  have hl : lv_has ls 2 [(0, .int p0), (1, .int p1)] := hl
  have hr_p0 := tk_rng p0
  have hr_p1 := tk_rng p1
  refine lv_iload_n hx hb dX13_is_0 rfl (lv_at hl 0 rfl) ?_
  refine lv_iload_n hx hb dX13_is_1 rfl (lv_at hl 1 rfl) ?_
  refine lv_ishr hx hb dX13_is_2 ?_
  refine tk_any (fun v1 => ?_)
  refine lv_iconst (v := 1) hx hb dX13_is_3 (by decide) ?_
  refine lv_iand hx hb dX13_is_4 ?_
  refine tk_say (P := fun z => 0 ≤ z.toInt ∧ z.toInt ≤ 1) (tk_and v1 1 (by decide) (by decide)) (fun v2 h_v2 => ?_)
  refine lv_iconst (v := 1) hx hb dX13_is_5 (by decide) ?_
  refine lv_icmp_ne (tgt := 13) hx hb dX13_is_6 (by decide) (fun c9 => ?_) (fun c9 => ?_)
  · have hc3 : ¬ (v2.toInt = 1) := fun h9 => c9 ((fi_eq rfl (show (1 : Int32).toInt = 1 by decide)).mpr h9)
    refine lv_iconst (v := 0) hx hb dX13_is_13 (by decide) ?_
    have hk_0 : (0 : Int32).toInt = 0 := by decide
    exact mz_jret (v := 0) hx hb hr rfl hlocks ⟨(by omega), (by omega), (by omega), (by omega)⟩ hM hS dX13_is_14
  · have hc3 : v2.toInt = 1 := (fi_eq rfl (show (1 : Int32).toInt = 1 by decide)).mp c9
    refine lv_iconst (v := 1) hx hb dX13_is_9 (by decide) ?_
    refine lv_goto (tgt := 14) hx hb dX13_is_10 (by decide) ?_
    have hk_1 : (1 : Int32).toInt = 1 := by decide
    exact mz_jret (v := 1) hx hb hr rfl hlocks ⟨(by omega), (by omega), (by omega), (by omega)⟩ hM hS dX13_is_14
end
section
theorem dX13_ones_0 : decode cX13_ones 0 = .ok (.iconst 0, 1) := by decide +kernel
theorem dX13_ones_1 : decode cX13_ones 1 = .ok (.istore_n 1, 1) := by decide +kernel
theorem dX13_ones_2 : decode cX13_ones 2 = .ok (.iconst 0, 1) := by decide +kernel
theorem dX13_ones_3 : decode cX13_ones 3 = .ok (.istore_n 2, 1) := by decide +kernel
theorem dX13_ones_4 : decode cX13_ones 4 = .ok (.iload_n 2, 1) := by decide +kernel
theorem dX13_ones_5 : decode cX13_ones 5 = .ok (.bipush 8, 2) := by decide +kernel
theorem dX13_ones_7 : decode cX13_ones 7 = .ok (.if_icmp .ge 17, 3) := by decide +kernel
theorem dX13_ones_24 : decode cX13_ones 24 = .ok (.iload_n 1, 1) := by decide +kernel
theorem dX13_ones_25 : decode cX13_ones 25 = .ok (.ireturn, 1) := by decide +kernel
theorem dX13_ones_10 : decode cX13_ones 10 = .ok (.iload_n 1, 1) := by decide +kernel
theorem dX13_ones_11 : decode cX13_ones 11 = .ok (.iload_n 0, 1) := by decide +kernel
theorem dX13_ones_12 : decode cX13_ones 12 = .ok (.iload_n 2, 1) := by decide +kernel
theorem dX13_ones_13 : decode cX13_ones 13 = .ok (.ishr, 1) := by decide +kernel
theorem dX13_ones_14 : decode cX13_ones 14 = .ok (.iconst 1, 1) := by decide +kernel
theorem dX13_ones_15 : decode cX13_ones 15 = .ok (.iand, 1) := by decide +kernel
theorem dX13_ones_16 : decode cX13_ones 16 = .ok (.iadd, 1) := by decide +kernel
theorem dX13_ones_17 : decode cX13_ones 17 = .ok (.istore_n 1, 1) := by decide +kernel
theorem dX13_ones_18 : decode cX13_ones 18 = .ok (.iinc 2 1, 3) := by decide +kernel
theorem dX13_ones_21 : decode cX13_ones 21 = .ok (.goto (-17), 3) := by decide +kernel
set_option maxHeartbeats 4000000 in
set_option maxRecDepth 100000 in
theorem k_X13_ones (l : Launch) (D : va_G) (cy : Nat → ClassId) (ld ad : Nat → Nat) (am : Nat) (hD : mz_D ad am) (Fa : Nat → Int32) (Ga : Nat → Int64) (Ra : Nat → Nat → Int32) (Sa : Nat → Nat → Int64) (p0 : Int32) : Met l yX13_ones (wl yX13_ones cX13_ones 3 (some .int)) ({ frames := 3, cells := 0, slots := 0, locals := 140 }) (mz_p D cy ld ad am Fa Ga Ra Sa [.int p0]) (mz_j D cy ad am Fa Ga Ra Sa (fun r => 0 ≤ r.toInt ∧ r.toInt ≤ 8)) 0 0 (mz_W ad am) := by
  refine mz_met (y := yX13_ones) (cc := cX13_ones) (maxL := 3) (ret := (some .int)) (av := [.int p0]) _ (by decide) (Nat.le_of_ble_eq_true rfl) ?_
  intro p e s m args below meth c hx hb hr hml hts htl hown hlocks hK H locs hM hS ls hl
  have hown : s.vm.findClass RX13 = some m.cls := hown
  have hl : lv_has ls 3 [(0, .int p0)] := hl
  have hr_p0 := tk_rng p0
  refine lv_iconst (v := 0) hx hb dX13_ones_0 (by decide) ?_
  refine lv_istore_n (lv' := [(1, .int 0), (0, .int p0)]) hx hb dX13_ones_1 rfl hl (by decide) rfl (fun ls hl => ?_)
  refine lv_iconst (v := 0) hx hb dX13_ones_2 (by decide) ?_
  refine lv_istore_n (lv' := [(2, .int 0), (1, .int 0), (0, .int p0)]) hx hb dX13_ones_3 rfl hl (by decide) rfl (fun ls hl => ?_)
  have hl88 : ∀ (N_l88 : Nat) (v28 : Int32) (v29 : Int32), (v28.toInt ≤ 8) → (0 ≤ v29.toInt) → (0 ≤ v28.toInt + (-1) * v29.toInt) → ((-1) * v28.toInt + 8 < (N_l88 : Int)) → ∀ ls : Array Slot, lv_has ls 3 [(2, .int v28), (1, .int v29), (0, .int p0)] → W p l e ({ frames := 3, cells := 0, slots := 0, locals := 140 }) s m args below meth c H locs 0 0 (MQ below (mz_j D cy ad am Fa Ga Ra Sa (fun r => 0 ≤ r.toInt ∧ r.toInt ≤ 8)) args s 0 0 (mz_W ad am)) (F0 m 4 ls []) := by
    intro N_l88
    induction N_l88 with
    | zero => intro v28 v29 hq0_l88 hq1_l88 hq2_l88 hm_l88 ls hl; exfalso; omega
    | succ N_l88 ih_l88 =>
      intro v28 v29 hq0_l88 hq1_l88 hq2_l88 hm_l88 ls hl
      refine lv_iload_n hx hb dX13_ones_4 rfl (lv_at hl 0 rfl) ?_
      refine lv_bipush (v := 8) hx hb dX13_ones_5 (by decide) ?_
      refine lv_icmp_ge (tgt := 24) hx hb dX13_ones_7 (by decide) (fun c9 => ?_) (fun c9 => ?_)
      · have hc89 : 8 ≤ v28.toInt := (fi_le (show (8 : Int32).toInt = 8 by decide) rfl).mp c9
        refine lv_iload_n hx hb dX13_ones_24 rfl (lv_at hl 1 rfl) ?_
        exact mz_jret (v := v29) hx hb hr rfl hlocks ⟨(by omega), (by omega)⟩ hM hS dX13_ones_25
      · have hc89 : ¬ (8 ≤ v28.toInt) := fun h9 => c9 ((fi_le (show (8 : Int32).toInt = 8 by decide) rfl).mpr h9)
        refine lv_iload_n hx hb dX13_ones_10 rfl (lv_at hl 1 rfl) ?_
        refine lv_iload_n hx hb dX13_ones_11 rfl (lv_at hl 2 rfl) ?_
        refine lv_iload_n hx hb dX13_ones_12 rfl (lv_at hl 0 rfl) ?_
        refine lv_ishr hx hb dX13_ones_13 ?_
        refine tk_any (fun v94 => ?_)
        refine lv_iconst (v := 1) hx hb dX13_ones_14 (by decide) ?_
        refine lv_iand hx hb dX13_ones_15 ?_
        refine tk_say (P := fun z => 0 ≤ z.toInt ∧ z.toInt ≤ 1) (tk_and v94 1 (by decide) (by decide)) (fun v95 h_v95 => ?_)
        refine lv_iadd hx hb dX13_ones_16 ?_
        refine tk_add rfl rfl (by omega) (by omega) (fun v96 h_v96 => ?_)
        refine lv_istore_n (lv' := [(1, .int v96), (2, .int v28), (0, .int p0)]) hx hb dX13_ones_17 rfl hl (by decide) rfl (fun ls hl => ?_)
        obtain ⟨v97, h_v97, e_v97⟩ := tk_inc v28 1 (by decide) (by omega) (by omega)
        refine lv_iinc (v := v97) (lv' := [(2, .int v97), (1, .int v96), (0, .int p0)]) hx hb dX13_ones_18 hl (k := 1) rfl e_v97 (by decide) rfl (fun ls hl => ?_)
        refine lv_goto (tgt := 4) hx hb dX13_ones_21 (by decide) ?_
        exact ih_l88 v97 v96 (by omega) (by omega) (by omega) (by omega) _ (lv_sub hl [0, 1, 2] rfl)
  have hk_0 : (0 : Int32).toInt = 0 := by decide
  have hk_0 : (0 : Int32).toInt = 0 := by decide
  exact hl88 9 0 0 (by omega) (by omega) (by omega) (by omega) _ (lv_sub hl [0, 1, 2] rfl)
end
section
theorem dX13_within_0 : decode cX13_within 0 = .ok (.lload_n 0, 1) := by decide +kernel
theorem dX13_within_1 : decode cX13_within 1 = .ok (.iload_n 2, 1) := by decide +kernel
theorem dX13_within_2 : decode cX13_within 2 = .ok (.i2l, 1) := by decide +kernel
theorem dX13_within_3 : decode cX13_within 3 = .ok (.lcmp, 1) := by decide +kernel
theorem dX13_within_4 : decode cX13_within 4 = .ok (.ifCond .ge 7, 3) := by decide +kernel
theorem dX13_within_11 : decode cX13_within 11 = .ok (.lload_n 0, 1) := by decide +kernel
theorem dX13_within_12 : decode cX13_within 12 = .ok (.iload_n 3, 1) := by decide +kernel
theorem dX13_within_13 : decode cX13_within 13 = .ok (.i2l, 1) := by decide +kernel
theorem dX13_within_14 : decode cX13_within 14 = .ok (.lcmp, 1) := by decide +kernel
theorem dX13_within_15 : decode cX13_within 15 = .ok (.ifCond .le 7, 3) := by decide +kernel
theorem dX13_within_22 : decode cX13_within 22 = .ok (.lload_n 0, 1) := by decide +kernel
theorem dX13_within_23 : decode cX13_within 23 = .ok (.l2i, 1) := by decide +kernel
theorem dX13_within_24 : decode cX13_within 24 = .ok (.ireturn, 1) := by decide +kernel
theorem dX13_within_18 : decode cX13_within 18 = .ok (.iload_n 3, 1) := by decide +kernel
theorem dX13_within_19 : decode cX13_within 19 = .ok (.goto 5, 3) := by decide +kernel
theorem dX13_within_7 : decode cX13_within 7 = .ok (.iload_n 2, 1) := by decide +kernel
theorem dX13_within_8 : decode cX13_within 8 = .ok (.goto 16, 3) := by decide +kernel
set_option maxHeartbeats 4000000 in
set_option maxRecDepth 100000 in
theorem k_X13_within (l : Launch) (D : va_G) (cy : Nat → ClassId) (ld ad : Nat → Nat) (am : Nat) (hD : mz_D ad am) (Fa : Nat → Int32) (Ga : Nat → Int64) (Ra : Nat → Nat → Int32) (Sa : Nat → Nat → Int64) (p0 : Int64) (p1 : Int32) (p2 : Int32) (hp_0 : 0 ≤ (-1) * p1.toInt + p2.toInt) : Met l yX13_within (wl yX13_within cX13_within 4 (some .int)) ({ frames := 3, cells := 0, slots := 0, locals := 140 }) (mz_p D cy ld ad am Fa Ga Ra Sa [.long p0, .int p1, .int p2]) (mz_j D cy ad am Fa Ga Ra Sa (fun r => 0 ≤ (-1) * p1.toInt + r.toInt ∧ 0 ≤ p2.toInt + (-1) * r.toInt)) 0 0 (mz_W ad am) := by
  refine mz_met (y := yX13_within) (cc := cX13_within) (maxL := 4) (ret := (some .int)) (av := [.long p0, .int p1, .int p2]) _ (by decide) (Nat.le_of_ble_eq_true rfl) ?_
  intro p e s m args below meth c hx hb hr hml hts htl hown hlocks hK H locs hM hS ls hl
  have hown : s.vm.findClass RX13 = some m.cls := hown
  have hl : lv_has ls 4 [(0, .long p0), (2, .int p1), (3, .int p2)] := hl
  have hr_p1 := tk_rng p1
  have hr_p2 := tk_rng p2
  refine lv_lload_n hx hb dX13_within_0 rfl (lv_at hl 0 rfl) ?_
  refine lv_iload_n hx hb dX13_within_1 rfl (lv_at hl 1 rfl) ?_
  obtain ⟨w1, e_w1, h_w1⟩ : ∃ z : Int64, p1.toInt64 = z ∧ z.toInt = p1.toInt := ⟨_, rfl, fl_w _⟩
  refine lv_i2l (v := w1) hx hb dX13_within_2 e_w1 ?_
  refine W.lcmp hx hb dX13_within_3 ?_
  refine lv_if_ge (tgt := 11) hx hb dX13_within_4 (by decide) (fun c9 => ?_) (fun c9 => ?_)
  · have hc2 : w1.toInt ≤ p0.toInt := ((lg_cmp_ge _ _).trans (fl_le rfl rfl)).mp c9
    refine lv_lload_n hx hb dX13_within_11 rfl (lv_at hl 0 rfl) ?_
    refine lv_iload_n hx hb dX13_within_12 rfl (lv_at hl 2 rfl) ?_
    obtain ⟨w3, e_w3, h_w3⟩ : ∃ z : Int64, p2.toInt64 = z ∧ z.toInt = p2.toInt := ⟨_, rfl, fl_w _⟩
    refine lv_i2l (v := w3) hx hb dX13_within_13 e_w3 ?_
    refine W.lcmp hx hb dX13_within_14 ?_
    refine lv_if_le (tgt := 22) hx hb dX13_within_15 (by decide) (fun c9 => ?_) (fun c9 => ?_)
    · have hc4 : p0.toInt ≤ w3.toInt := ((lg_cmp_le _ _).trans (fl_le rfl rfl)).mp c9
      refine lv_lload_n hx hb dX13_within_22 rfl (lv_at hl 0 rfl) ?_
      obtain ⟨v5, e_v5, h_v5⟩ : ∃ z : Int32, p0.toInt32 = z ∧ z.toInt = p0.toInt := ⟨_, rfl, tk_l2i (by omega) (by omega)⟩
      refine lv_l2i (v := v5) hx hb dX13_within_23 e_v5 ?_
      exact mz_jret (v := v5) hx hb hr rfl hlocks ⟨(by omega), (by omega)⟩ hM hS dX13_within_24
    · have hc4 : ¬ (p0.toInt ≤ w3.toInt) := fun h9 => c9 (((lg_cmp_le _ _).trans (fl_le rfl rfl)).mpr h9)
      refine lv_iload_n hx hb dX13_within_18 rfl (lv_at hl 2 rfl) ?_
      refine lv_goto (tgt := 24) hx hb dX13_within_19 (by decide) ?_
      exact mz_jret (v := p2) hx hb hr rfl hlocks ⟨(by omega), (by omega)⟩ hM hS dX13_within_24
  · have hc2 : ¬ (w1.toInt ≤ p0.toInt) := fun h9 => c9 (((lg_cmp_ge _ _).trans (fl_le rfl rfl)).mpr h9)
    refine lv_iload_n hx hb dX13_within_7 rfl (lv_at hl 1 rfl) ?_
    refine lv_goto (tgt := 24) hx hb dX13_within_8 (by decide) ?_
    exact mz_jret (v := p1) hx hb hr rfl hlocks ⟨(by omega), (by omega)⟩ hM hS dX13_within_24
end
section
theorem dX13_tell_0 : decode cX13_tell 0 = .ok (.aload_n 0, 1) := by decide +kernel
theorem dX13_tell_1 : decode cX13_tell 1 = .ok (.iload_n 1, 1) := by decide +kernel
theorem dX13_tell_10 : decode cX13_tell 10 = .ok (.putfield 173, 3) := by decide +kernel
theorem dX13_tell_13 : decode cX13_tell 13 = .ok (.iload_n 1, 1) := by decide +kernel
theorem dX13_tell_28 : decode cX13_tell 28 = .ok (.iload_n 1, 1) := by decide +kernel
theorem dX13_tell_29 : decode cX13_tell 29 = .ok (.ireturn, 1) := by decide +kernel
theorem dX13_tell_14 : decode cX13_tell 14 = .ok (.ifCond .ge 14, 3) := by decide +kernel
theorem dX13_tell_17 : decode cX13_tell 17 = .ok (.aload_n 0, 1) := by decide +kernel
theorem dX13_tell_18 : decode cX13_tell 18 = .ok (.getfield 7, 3) := by decide +kernel
theorem dX13_tell_21 : decode cX13_tell 21 = .ok (.iload_n 1, 1) := by decide +kernel
theorem dX13_tell_22 : decode cX13_tell 22 = .ok (.ineg, 1) := by decide +kernel
theorem dX13_tell_23 : decode cX13_tell 23 = .ok (.dup2, 1) := by decide +kernel
theorem dX13_tell_24 : decode cX13_tell 24 = .ok (.iaload, 1) := by decide +kernel
theorem dX13_tell_25 : decode cX13_tell 25 = .ok (.iconst 1, 1) := by decide +kernel
theorem dX13_tell_26 : decode cX13_tell 26 = .ok (.iadd, 1) := by decide +kernel
theorem dX13_tell_27 : decode cX13_tell 27 = .ok (.iastore, 1) := by decide +kernel
theorem dX13_tell_2 : decode cX13_tell 2 = .ok (.ifCond .ge 7, 3) := by decide +kernel
theorem dX13_tell_9 : decode cX13_tell 9 = .ok (.iconst 0, 1) := by decide +kernel
theorem dX13_tell_5 : decode cX13_tell 5 = .ok (.iload_n 1, 1) := by decide +kernel
theorem dX13_tell_6 : decode cX13_tell 6 = .ok (.goto 4, 3) := by decide +kernel
set_option maxHeartbeats 4000000 in
set_option maxRecDepth 100000 in
theorem k_X13_tell (l : Launch) (D : va_G) (cy : Nat → ClassId) (ld ad : Nat → Nat) (am : Nat) (hD : mz_D ad am) (Fa : Nat → Int32) (Ga : Nat → Int64) (Ra : Nat → Nat → Int32) (Sa : Nat → Nat → Int64) (p1 : Int32) (hIF : mz_IF true Fa) (hIG : mz_IG Ga) (hIR : mz_IR [] true Ra) (hp_0 : (-6) ≤ p1.toInt) (hp_1 : p1.toInt ≤ 2147483647) : Met l yX13_tell (wl yX13_tell cX13_tell 2 (some .int)) ({ frames := 3, cells := 0, slots := 0, locals := 140 }) (mz_p D cy ld ad am Fa Ga Ra Sa [.ref am, .int p1]) (mz_i D cy ad am (fun r F G R S => mz_IF true F ∧ mz_IG G ∧ mz_IR [] true R ∧ (∀ k : Nat, k ∉ ([1] : List Nat) → F k = Fa k) ∧ (∀ k : Nat, k ∉ ([2] : List Nat) → R k = Ra k) ∧ (∀ k : Nat, k ∉ ([] : List Nat) → G k = Ga k) ∧ (-1) * p1.toInt + r.toInt = 0)) 0 0 (mz_W ad am) := by
  refine mz_met (y := yX13_tell) (cc := cX13_tell) (maxL := 2) (ret := (some .int)) (av := [.ref am, .int p1]) _ (by decide) (Nat.le_of_ble_eq_true rfl) ?_
  intro p e s m args below meth c hx hb hr hml hts htl hown hlocks hK H locs hM hS ls hl
  have hown : s.vm.findClass RX13 = some m.cls := hown
  have hl : lv_has ls 2 [(0, .ref am), (1, .int p1)] := hl
  have hr_p1 := tk_rng p1
  refine lv_aload_n hx hb dX13_tell_0 rfl (lv_at hl 0 rfl) ?_
  refine lv_iload_n hx hb dX13_tell_1 rfl (lv_at hl 1 rfl) ?_
  have hj4 : ∀ (v3 : Int32), ((-6) ≤ v3.toInt) → (v3.toInt ≤ 0) → (0 ≤ p1.toInt + (-1) * v3.toInt) → ∀ ls : Array Slot, lv_has ls 2 [(0, .ref am), (1, .int p1)] → W p l e ({ frames := 3, cells := 0, slots := 0, locals := 140 }) s m args below meth c H locs 0 0 (MQ below (mz_i D cy ad am (fun r F G R S => mz_IF true F ∧ mz_IG G ∧ mz_IR [] true R ∧ (∀ k : Nat, k ∉ ([1] : List Nat) → F k = Fa k) ∧ (∀ k : Nat, k ∉ ([2] : List Nat) → R k = Ra k) ∧ (∀ k : Nat, k ∉ ([] : List Nat) → G k = Ga k) ∧ (-1) * p1.toInt + r.toInt = 0)) args s 0 0 (mz_W ad am)) (F0 m 10 ls [.int v3, .ref am]) := by
    intro v3 hq0_j4 hq1_j4 hq2_j4 ls hl
    refine mz_putI (ty := .int) (x := v3) hx hb htl hown hK hD hM hS 1 (Nat.le_of_ble_eq_true rfl) rfl (htl _ mw_297) (fun _ h9 => h9) rfl (tyX13_ok 1 (by decide)) rfl rfl dX13_tell_10 (fun H locs F hM hS hf9 hj9 => ?_)
    have hIF := hIF.put hf9 hj9 (tk_rng _).1 (tk_rng _).2 (by decide)
    have hFF := mz_frp (K := [1]) (Fa := Fa) hj9 (fun _ _ => rfl) (by decide)
    have hf6 := hf9
    refine lv_iload_n hx hb dX13_tell_13 rfl (lv_at hl 1 rfl) ?_
    have hj17 : ∀ (H : Heap) (locs : List Loc) (R : Nat → Nat → Int32), (mz_S D cy ad am F Ga R Sa H) → (va_S (mz_W ad am) s.heap H locs) → (mz_IR [] true R) → (∀ k : Nat, k ∉ ([2] : List Nat) → R k = Ra k) → ∀ ls : Array Slot, lv_has ls 2 [(1, .int p1)] → W p l e ({ frames := 3, cells := 0, slots := 0, locals := 140 }) s m args below meth c H locs 0 0 (MQ below (mz_i D cy ad am (fun r F G R S => mz_IF true F ∧ mz_IG G ∧ mz_IR [] true R ∧ (∀ k : Nat, k ∉ ([1] : List Nat) → F k = Fa k) ∧ (∀ k : Nat, k ∉ ([2] : List Nat) → R k = Ra k) ∧ (∀ k : Nat, k ∉ ([] : List Nat) → G k = Ga k) ∧ (-1) * p1.toInt + r.toInt = 0)) args s 0 0 (mz_W ad am)) (F0 m 28 ls []) := by
      intro H locs R hM hS hIR hRR ls hl
      refine lv_iload_n hx hb dX13_tell_28 rfl (lv_at hl 0 rfl) ?_
      exact mz_iret (v := p1) hx hb hr rfl hlocks ⟨hIF, hIG, hIR, hFF, hRR, (fun _ _ => rfl), (by omega)⟩ hM hS dX13_tell_29
    refine lv_if_ge (tgt := 28) hx hb dX13_tell_14 (by decide) (fun c9 => ?_) (fun c9 => ?_)
    · have hc10 : 0 ≤ p1.toInt := (fi_le (show (0 : Int32).toInt = 0 by decide) rfl).mp c9
      exact hj17 _ _ _ hM hS hIR (fun _ _ => rfl) _ (lv_sub hl [1] rfl)
    · have hc10 : ¬ (0 ≤ p1.toInt) := fun h9 => c9 ((fi_le (show (0 : Int32).toInt = 0 by decide) rfl).mpr h9)
      refine lv_aload_n hx hb dX13_tell_17 rfl (lv_at hl 0 rfl) ?_
      refine mz_getR hx hb htl hown hK hM 2 (Nat.le_of_ble_eq_true rfl) (Nat.le_of_ble_eq_true rfl) (htl _ mw_187) (fun _ h9 => h9) dX13_tell_18 ?_
      refine lv_iload_n hx hb dX13_tell_21 rfl (lv_at hl 1 rfl) ?_
      refine lv_ineg hx hb dX13_tell_22 ?_
      refine tk_neg rfl (by omega) (by omega) (fun v18 h_v18 => ?_)
      refine lv_dup2_11 hx hb dX13_tell_23 rfl rfl ?_
      refine mz_iald hx hb hK hM 2 (Nat.le_of_ble_eq_true rfl) rfl (nn := 7) rfl rfl (by omega) (by omega) dX13_tell_24 (fun v19 e_v19 => ?_)
      have hq_v19 := tk_rng v19
      refine lv_iconst (v := 1) hx hb dX13_tell_25 (by decide) ?_
      refine lv_iadd hx hb dX13_tell_26 ?_
      obtain ⟨v20, hm_v20⟩ : ∃ z : Int32, v19 + 1 = z := ⟨_, rfl⟩
      refine fx_ti hm_v20 ?_
      refine mz_iast (x := v20) hx hb hK hD hM hS 2 (Nat.le_of_ble_eq_true rfl) rfl (nn := 7) rfl rfl (by omega) (by omega) dX13_tell_27 (fun H locs R hM hS hw9 hj9 => ?_)
      have hIR := hIR.put hw9 hj9 trivial
      have hRR := mz_frp (K := [2]) (Fa := Ra) hj9 (fun _ _ => rfl) (by decide)
      exact hj17 _ _ _ hM hS hIR hRR _ (lv_sub hl [1] rfl)
  refine lv_if_ge (tgt := 9) hx hb dX13_tell_2 (by decide) (fun c9 => ?_) (fun c9 => ?_)
  · have hc1 : 0 ≤ p1.toInt := (fi_le (show (0 : Int32).toInt = 0 by decide) rfl).mp c9
    refine lv_iconst (v := 0) hx hb dX13_tell_9 (by decide) ?_
    have hk_0 : (0 : Int32).toInt = 0 := by decide
    exact hj4 0 (by omega) (by omega) (by omega) _ (lv_sub hl [0, 1] rfl)
  · have hc1 : ¬ (0 ≤ p1.toInt) := fun h9 => c9 ((fi_le (show (0 : Int32).toInt = 0 by decide) rfl).mpr h9)
    refine lv_iload_n hx hb dX13_tell_5 rfl (lv_at hl 1 rfl) ?_
    refine lv_goto (tgt := 10) hx hb dX13_tell_6 (by decide) ?_
    exact hj4 p1 (by omega) (by omega) (by omega) _ (lv_sub hl [0, 1] rfl)
end
section
theorem dX13_change_0 : decode cX13_change 0 = .ok (.aload_n 0, 1) := by decide +kernel
theorem dX13_change_1 : decode cX13_change 1 = .ok (.getfield 13, 3) := by decide +kernel
theorem dX13_change_4 : decode cX13_change 4 = .ok (.iload_n 1, 1) := by decide +kernel
theorem dX13_change_5 : decode cX13_change 5 = .ok (.iaload, 1) := by decide +kernel
theorem dX13_change_6 : decode cX13_change 6 = .ok (.istore_n 3, 1) := by decide +kernel
theorem dX13_change_7 : decode cX13_change 7 = .ok (.aload_n 0, 1) := by decide +kernel
theorem dX13_change_8 : decode cX13_change 8 = .ok (.getfield 13, 3) := by decide +kernel
theorem dX13_change_11 : decode cX13_change 11 = .ok (.iload_n 1, 1) := by decide +kernel
theorem dX13_change_12 : decode cX13_change 12 = .ok (.iload_n 2, 1) := by decide +kernel
theorem dX13_change_13 : decode cX13_change 13 = .ok (.iastore, 1) := by decide +kernel
theorem dX13_change_14 : decode cX13_change 14 = .ok (.aload_n 0, 1) := by decide +kernel
theorem dX13_change_15 : decode cX13_change 15 = .ok (.iconst 0, 1) := by decide +kernel
theorem dX13_change_16 : decode cX13_change 16 = .ok (.putfield 173, 3) := by decide +kernel
theorem dX13_change_19 : decode cX13_change 19 = .ok (.iload_n 3, 1) := by decide +kernel
theorem dX13_change_20 : decode cX13_change 20 = .ok (.ireturn, 1) := by decide +kernel
set_option maxHeartbeats 4000000 in
set_option maxRecDepth 100000 in
theorem k_X13_change (l : Launch) (D : va_G) (cy : Nat → ClassId) (ld ad : Nat → Nat) (am : Nat) (hD : mz_D ad am) (Fa : Nat → Int32) (Ga : Nat → Int64) (Ra : Nat → Nat → Int32) (Sa : Nat → Nat → Int64) (p1 : Int32) (p2 : Int32) (hIF : mz_IF true Fa) (hIG : mz_IG Ga) (hIR : mz_IR [] true Ra) (hp_0 : 5 ≤ p1.toInt) (hp_1 : p1.toInt ≤ 11) (hp_2 : (p1.toInt ≤ 5 → (-1) ≤ p2.toInt ∧ p2.toInt ≤ 5)) : Met l yX13_change (wl yX13_change cX13_change 4 (some .int)) ({ frames := 3, cells := 0, slots := 0, locals := 140 }) (mz_p D cy ld ad am Fa Ga Ra Sa [.ref am, .int p1, .int p2]) (mz_i D cy ad am (fun r F G R S => mz_IF true F ∧ mz_IG G ∧ mz_IR [] true R ∧ (∀ k : Nat, k ∉ ([1] : List Nat) → F k = Fa k) ∧ (∀ k : Nat, k ∉ ([3] : List Nat) → R k = Ra k) ∧ (∀ k : Nat, k ∉ ([] : List Nat) → G k = Ga k) ∧ rK3 (Ra 3) (R 3))) 0 0 (mz_W ad am) := by
  refine mz_met (y := yX13_change) (cc := cX13_change) (maxL := 4) (ret := (some .int)) (av := [.ref am, .int p1, .int p2]) _ (by decide) (Nat.le_of_ble_eq_true rfl) ?_
  intro p e s m args below meth c hx hb hr hml hts htl hown hlocks hK H locs hM hS ls hl
  have hown : s.vm.findClass RX13 = some m.cls := hown
  have hl : lv_has ls 4 [(0, .ref am), (1, .int p1), (2, .int p2)] := hl
  have hr_p1 := tk_rng p1
  have hr_p2 := tk_rng p2
  refine lv_aload_n hx hb dX13_change_0 rfl (lv_at hl 0 rfl) ?_
  refine mz_getR hx hb htl hown hK hM 3 (Nat.le_of_ble_eq_true rfl) (Nat.le_of_ble_eq_true rfl) (htl _ mw_188) (fun _ h9 => h9) dX13_change_1 ?_
  refine lv_iload_n hx hb dX13_change_4 rfl (lv_at hl 1 rfl) ?_
  refine mz_iald hx hb hK hM 3 (Nat.le_of_ble_eq_true rfl) rfl (nn := 5560) rfl rfl (by omega) (by omega) dX13_change_5 (fun v1 e_v1 => ?_)
  have hq_v1 := tk_rng v1
  refine lv_istore_n (lv' := [(3, .int v1), (0, .ref am), (1, .int p1), (2, .int p2)]) hx hb dX13_change_6 rfl hl (by decide) rfl (fun ls hl => ?_)
  refine lv_aload_n hx hb dX13_change_7 rfl (lv_at hl 1 rfl) ?_
  refine mz_getR hx hb htl hown hK hM 3 (Nat.le_of_ble_eq_true rfl) (Nat.le_of_ble_eq_true rfl) (htl _ mw_188) (fun _ h9 => h9) dX13_change_8 ?_
  refine lv_iload_n hx hb dX13_change_11 rfl (lv_at hl 2 rfl) ?_
  refine lv_iload_n hx hb dX13_change_12 rfl (lv_at hl 3 rfl) ?_
  refine mz_iast (x := p2) hx hb hK hD hM hS 3 (Nat.le_of_ble_eq_true rfl) rfl (nn := 5560) rfl rfl (by omega) (by omega) dX13_change_13 (fun H locs R hM hS hw9 hj9 => ?_)
  have hIR := hIR.put hw9 hj9 (mz_r3 (hIR.at 3) (I := p1.toInt) rfl (by omega) (by omega) (fun h9 => by first | (cases h9; done) | omega) (by unfold mE; omega))
  have hRR := mz_frp (K := [3]) (Fa := Ra) hj9 (fun _ _ => rfl) (by decide)
  have hrel := rK3.put (I := p1.toInt) (rK3.refl rfl) hw9 rfl (Or.inl ⟨by omega, by omega⟩)
  refine lv_aload_n hx hb dX13_change_14 rfl (lv_at hl 1 rfl) ?_
  refine lv_iconst (v := 0) hx hb dX13_change_15 (by decide) ?_
  have hk_0 : (0 : Int32).toInt = 0 := by decide
  refine mz_putI (ty := .int) (x := 0) hx hb htl hown hK hD hM hS 1 (Nat.le_of_ble_eq_true rfl) rfl (htl _ mw_297) (fun _ h9 => h9) rfl (tyX13_ok 1 (by decide)) rfl rfl dX13_change_16 (fun H locs F hM hS hf9 hj9 => ?_)
  have hIF := hIF.put hf9 hj9 (tk_rng _).1 (tk_rng _).2 (by decide)
  have hFF := mz_frp (K := [1]) (Fa := Fa) hj9 (fun _ _ => rfl) (by decide)
  have hf4 := hf9
  refine lv_iload_n hx hb dX13_change_19 rfl (lv_at hl 0 rfl) ?_
  exact mz_iret (v := v1) hx hb hr rfl hlocks ⟨hIF, hIG, hIR, hFF, hRR, (fun _ _ => rfl), hrel⟩ hM hS dX13_change_20
end
section
theorem dX13_keepAll_0 : decode cX13_keepAll 0 = .ok (.iconst 0, 1) := by decide +kernel
theorem dX13_keepAll_1 : decode cX13_keepAll 1 = .ok (.istore_n 2, 1) := by decide +kernel
theorem dX13_keepAll_2 : decode cX13_keepAll 2 = .ok (.iload_n 2, 1) := by decide +kernel
theorem dX13_keepAll_3 : decode cX13_keepAll 3 = .ok (.bipush 52, 2) := by decide +kernel
theorem dX13_keepAll_5 : decode cX13_keepAll 5 = .ok (.if_icmp .ge 29, 3) := by decide +kernel
theorem dX13_keepAll_34 : decode cX13_keepAll 34 = .ok (.return_, 1) := by decide +kernel
theorem dX13_keepAll_8 : decode cX13_keepAll 8 = .ok (.aload_n 0, 1) := by decide +kernel
theorem dX13_keepAll_9 : decode cX13_keepAll 9 = .ok (.getfield 23, 3) := by decide +kernel
theorem dX13_keepAll_12 : decode cX13_keepAll 12 = .ok (.bipush 52, 2) := by decide +kernel
theorem dX13_keepAll_14 : decode cX13_keepAll 14 = .ok (.iload_n 1, 1) := by decide +kernel
theorem dX13_keepAll_15 : decode cX13_keepAll 15 = .ok (.imul, 1) := by decide +kernel
theorem dX13_keepAll_16 : decode cX13_keepAll 16 = .ok (.iload_n 2, 1) := by decide +kernel
theorem dX13_keepAll_17 : decode cX13_keepAll 17 = .ok (.iadd, 1) := by decide +kernel
theorem dX13_keepAll_18 : decode cX13_keepAll 18 = .ok (.aload_n 0, 1) := by decide +kernel
theorem dX13_keepAll_19 : decode cX13_keepAll 19 = .ok (.getfield 13, 3) := by decide +kernel
theorem dX13_keepAll_22 : decode cX13_keepAll 22 = .ok (.bipush 6, 2) := by decide +kernel
theorem dX13_keepAll_24 : decode cX13_keepAll 24 = .ok (.iload_n 2, 1) := by decide +kernel
theorem dX13_keepAll_25 : decode cX13_keepAll 25 = .ok (.iadd, 1) := by decide +kernel
theorem dX13_keepAll_26 : decode cX13_keepAll 26 = .ok (.iaload, 1) := by decide +kernel
theorem dX13_keepAll_27 : decode cX13_keepAll 27 = .ok (.iastore, 1) := by decide +kernel
theorem dX13_keepAll_28 : decode cX13_keepAll 28 = .ok (.iinc 2 1, 3) := by decide +kernel
theorem dX13_keepAll_31 : decode cX13_keepAll 31 = .ok (.goto (-29), 3) := by decide +kernel
set_option maxHeartbeats 4000000 in
set_option maxRecDepth 100000 in
theorem k_X13_keepAll (l : Launch) (D : va_G) (cy : Nat → ClassId) (ld ad : Nat → Nat) (am : Nat) (hD : mz_D ad am) (Fa : Nat → Int32) (Ga : Nat → Int64) (Ra : Nat → Nat → Int32) (Sa : Nat → Nat → Int64) (p1 : Int32) (hIF : mz_IF true Fa) (hIG : mz_IG Ga) (hIR : mz_IR [] true Ra) (hp_0 : 0 ≤ p1.toInt) (hp_1 : p1.toInt ≤ 22) : Met l yX13_keepAll (wl yX13_keepAll cX13_keepAll 3 none) ({ frames := 3, cells := 0, slots := 0, locals := 140 }) (mz_p D cy ld ad am Fa Ga Ra Sa [.ref am, .int p1]) (mz_w D cy ad am (fun F G R S => mz_IF true F ∧ mz_IG G ∧ mz_IR [] true R ∧ (∀ k : Nat, k ∉ ([] : List Nat) → F k = Fa k) ∧ (∀ k : Nat, k ∉ ([6] : List Nat) → R k = Ra k) ∧ (∀ k : Nat, k ∉ ([] : List Nat) → G k = Ga k))) 0 0 (mz_W ad am) := by
  refine mz_met (y := yX13_keepAll) (cc := cX13_keepAll) (maxL := 3) (ret := none) (av := [.ref am, .int p1]) _ (by decide) (Nat.le_of_ble_eq_true rfl) ?_
  intro p e s m args below meth c hx hb hr hml hts htl hown hlocks hK H locs hM hS ls hl
  have hown : s.vm.findClass RX13 = some m.cls := hown
  have hl : lv_has ls 3 [(0, .ref am), (1, .int p1)] := hl
  have hr_p1 := tk_rng p1
  refine lv_iconst (v := 0) hx hb dX13_keepAll_0 (by decide) ?_
  refine lv_istore_n (lv' := [(2, .int 0), (0, .ref am), (1, .int p1)]) hx hb dX13_keepAll_1 rfl hl (by decide) rfl (fun ls hl => ?_)
  have hI9 := hIR
  have hIR := hIR.hole (X := [6])
  obtain ⟨cf, ecf⟩ : ∃ z : Nat → Int32, Ra 3 = z := ⟨_, rfl⟩
  obtain ⟨cg, ecg⟩ : ∃ z : Nat → Int32, Ra 6 = z := ⟨_, rfl⟩
  have hl62 : ∀ (N_l62 : Nat) (v13 : Int32) (H : Heap) (locs : List Loc) (R : Nat → Nat → Int32), (0 ≤ v13.toInt) → (v13.toInt ≤ 52) → (mz_S D cy ad am Fa Ga R Sa H) → (va_S (mz_W ad am) s.heap H locs) → (mz_IR [6] true R) → (∀ k : Nat, k ∉ ([6] : List Nat) → R k = Ra k) → (R 6 = va_cpy cf cg 6 (52 * p1.toInt.toNat) v13.toInt.toNat) → (R 3 = cf) → ((-1) * v13.toInt + 57 < (N_l62 : Int)) → ∀ ls : Array Slot, lv_has ls 3 [(2, .int v13), (0, .ref am), (1, .int p1)] → W p l e ({ frames := 3, cells := 0, slots := 0, locals := 140 }) s m args below meth c H locs 0 0 (MQ below (mz_w D cy ad am (fun F G R S => mz_IF true F ∧ mz_IG G ∧ mz_IR [] true R ∧ (∀ k : Nat, k ∉ ([] : List Nat) → F k = Fa k) ∧ (∀ k : Nat, k ∉ ([6] : List Nat) → R k = Ra k) ∧ (∀ k : Nat, k ∉ ([] : List Nat) → G k = Ga k))) args s 0 0 (mz_W ad am)) (F0 m 2 ls []) := by
    intro N_l62
    induction N_l62 with
    | zero => intro v13 H locs R hq0_l62 hq1_l62 hM hS hIR hRR hcp hcs hm_l62 ls hl; exfalso; omega
    | succ N_l62 ih_l62 =>
      intro v13 H locs R hq0_l62 hq1_l62 hM hS hIR hRR hcp hcs hm_l62 ls hl
      refine lv_iload_n hx hb dX13_keepAll_2 rfl (lv_at hl 0 rfl) ?_
      refine lv_bipush (v := 52) hx hb dX13_keepAll_3 (by decide) ?_
      refine lv_icmp_ge (tgt := 34) hx hb dX13_keepAll_5 (by decide) (fun c9 => ?_) (fun c9 => ?_)
      · have hc63 : 52 ≤ v13.toInt := (fi_le (show (52 : Int32).toInt = 52 by decide) rfl).mp c9
        have e9 : v13.toInt.toNat = 52 := by omega
        rw [e9] at hcp
        have hIR := hIR.close (by rw [hcp]; exact mz_keep (by rw [← ecf]; exact hI9.at 3) (by rw [← ecg]; exact hI9.at 6) (by omega))
        exact mz_vret hx hb hr hlocks ⟨hIF, hIG, hIR, (fun _ _ => rfl), hRR, (fun _ _ => rfl)⟩ hM hS dX13_keepAll_34
      · have hc63 : ¬ (52 ≤ v13.toInt) := fun h9 => c9 ((fi_le (show (52 : Int32).toInt = 52 by decide) rfl).mpr h9)
        refine lv_aload_n hx hb dX13_keepAll_8 rfl (lv_at hl 1 rfl) ?_
        refine mz_getR hx hb htl hown hK hM 6 (Nat.le_of_ble_eq_true rfl) (Nat.le_of_ble_eq_true rfl) (htl _ mw_191) (fun _ h9 => h9) dX13_keepAll_9 ?_
        refine lv_bipush (v := 52) hx hb dX13_keepAll_12 (by decide) ?_
        refine lv_iload_n hx hb dX13_keepAll_14 rfl (lv_at hl 2 rfl) ?_
        refine lv_imul hx hb dX13_keepAll_15 ?_
        refine tk_mul (show (52 : Int32).toInt = 52 by decide) rfl (by omega) (by omega) (fun v64 h_v64 => ?_)
        refine lv_iload_n hx hb dX13_keepAll_16 rfl (lv_at hl 0 rfl) ?_
        refine lv_iadd hx hb dX13_keepAll_17 ?_
        refine tk_add rfl rfl (by omega) (by omega) (fun v65 h_v65 => ?_)
        refine lv_aload_n hx hb dX13_keepAll_18 rfl (lv_at hl 1 rfl) ?_
        refine mz_getR hx hb htl hown hK hM 3 (Nat.le_of_ble_eq_true rfl) (Nat.le_of_ble_eq_true rfl) (htl _ mw_188) (fun _ h9 => h9) dX13_keepAll_19 ?_
        refine lv_bipush (v := 6) hx hb dX13_keepAll_22 (by decide) ?_
        refine lv_iload_n hx hb dX13_keepAll_24 rfl (lv_at hl 0 rfl) ?_
        refine lv_iadd hx hb dX13_keepAll_25 ?_
        refine tk_add (show (6 : Int32).toInt = 6 by decide) rfl (by omega) (by omega) (fun v66 h_v66 => ?_)
        refine mz_iald hx hb hK hM 3 (Nat.le_of_ble_eq_true rfl) rfl (nn := 5560) rfl rfl (by omega) (by omega) dX13_keepAll_26 (fun v67 e_v67 => ?_)
        have hq_v67 := tk_rng v67
        refine mz_iast (x := v67) hx hb hK hD hM hS 6 (Nat.le_of_ble_eq_true rfl) rfl (nn := 1196) rfl rfl (by omega) (by omega) dX13_keepAll_27 (fun H locs R hM hS hw9 hj9 => ?_)
        have hIR := hIR.putX hj9 (by decide)
        have hcp := mz_cps (sp := 6) (dp := (52 * p1.toInt.toNat)) (n := v13.toInt.toNat) hw9 hcp (by omega) (by rw [← e_v67, hcs]; congr 1; have h9 := tk_nat (i := v66) rfl (by omega); omega)
        have hcs := (hj9 3 (by decide)).trans hcs
        have hRR := mz_frp (K := [6]) (Fa := Ra) hj9 hRR (by decide)
        have e_v67 : R 3 (v66 : Int32).toNatClampNeg = _ := (congrFun (hj9 3 (by decide)) _).trans e_v67
        obtain ⟨v69, h_v69, e_v69⟩ := tk_inc v13 1 (by decide) (by omega) (by omega)
        refine lv_iinc (v := v69) (lv' := [(2, .int v69), (0, .ref am), (1, .int p1)]) hx hb dX13_keepAll_28 hl (k := 0) rfl e_v69 (by decide) rfl (fun ls hl => ?_)
        refine lv_goto (tgt := 2) hx hb dX13_keepAll_31 (by decide) ?_
        exact ih_l62 v69 _ _ _ (by omega) (by omega) hM hS hIR hRR (by rw [show v69.toInt.toNat = v13.toInt.toNat + 1 by omega]; exact hcp) hcs (by omega) _ (lv_sub hl [0, 1, 2] rfl)
  have hk_0 : (0 : Int32).toInt = 0 := by decide
  exact hl62 58 0 _ _ _ (by omega) (by omega) hM hS hIR (fun _ _ => rfl) (by rw [show (0 : Int32).toInt.toNat = 0 by decide, mz_cp0]; exact ecg) ecf (by omega) _ (lv_sub hl [0, 1, 2] rfl)
end
section
theorem dX13_putBack_0 : decode cX13_putBack 0 = .ok (.iconst 0, 1) := by decide +kernel
theorem dX13_putBack_1 : decode cX13_putBack 1 = .ok (.istore_n 2, 1) := by decide +kernel
theorem dX13_putBack_2 : decode cX13_putBack 2 = .ok (.iload_n 2, 1) := by decide +kernel
theorem dX13_putBack_3 : decode cX13_putBack 3 = .ok (.bipush 52, 2) := by decide +kernel
theorem dX13_putBack_5 : decode cX13_putBack 5 = .ok (.if_icmp .ge 29, 3) := by decide +kernel
theorem dX13_putBack_34 : decode cX13_putBack 34 = .ok (.return_, 1) := by decide +kernel
theorem dX13_putBack_8 : decode cX13_putBack 8 = .ok (.aload_n 0, 1) := by decide +kernel
theorem dX13_putBack_9 : decode cX13_putBack 9 = .ok (.getfield 13, 3) := by decide +kernel
theorem dX13_putBack_12 : decode cX13_putBack 12 = .ok (.bipush 6, 2) := by decide +kernel
theorem dX13_putBack_14 : decode cX13_putBack 14 = .ok (.iload_n 2, 1) := by decide +kernel
theorem dX13_putBack_15 : decode cX13_putBack 15 = .ok (.iadd, 1) := by decide +kernel
theorem dX13_putBack_16 : decode cX13_putBack 16 = .ok (.aload_n 0, 1) := by decide +kernel
theorem dX13_putBack_17 : decode cX13_putBack 17 = .ok (.getfield 23, 3) := by decide +kernel
theorem dX13_putBack_20 : decode cX13_putBack 20 = .ok (.bipush 52, 2) := by decide +kernel
theorem dX13_putBack_22 : decode cX13_putBack 22 = .ok (.iload_n 1, 1) := by decide +kernel
theorem dX13_putBack_23 : decode cX13_putBack 23 = .ok (.imul, 1) := by decide +kernel
theorem dX13_putBack_24 : decode cX13_putBack 24 = .ok (.iload_n 2, 1) := by decide +kernel
theorem dX13_putBack_25 : decode cX13_putBack 25 = .ok (.iadd, 1) := by decide +kernel
theorem dX13_putBack_26 : decode cX13_putBack 26 = .ok (.iaload, 1) := by decide +kernel
theorem dX13_putBack_27 : decode cX13_putBack 27 = .ok (.iastore, 1) := by decide +kernel
theorem dX13_putBack_28 : decode cX13_putBack 28 = .ok (.iinc 2 1, 3) := by decide +kernel
theorem dX13_putBack_31 : decode cX13_putBack 31 = .ok (.goto (-29), 3) := by decide +kernel
set_option maxHeartbeats 4000000 in
set_option maxRecDepth 100000 in
theorem k_X13_putBack (l : Launch) (D : va_G) (cy : Nat → ClassId) (ld ad : Nat → Nat) (am : Nat) (hD : mz_D ad am) (Fa : Nat → Int32) (Ga : Nat → Int64) (Ra : Nat → Nat → Int32) (Sa : Nat → Nat → Int64) (p1 : Int32) (hIF : mz_IF true Fa) (hIG : mz_IG Ga) (hIR : mz_IR [] true Ra) (hp_0 : 0 ≤ p1.toInt) (hp_1 : p1.toInt ≤ 22) : Met l yX13_putBack (wl yX13_putBack cX13_putBack 3 none) ({ frames := 3, cells := 0, slots := 0, locals := 140 }) (mz_p D cy ld ad am Fa Ga Ra Sa [.ref am, .int p1]) (mz_w D cy ad am (fun F G R S => mz_IF true F ∧ mz_IG G ∧ mz_IR [] true R ∧ (∀ k : Nat, k ∉ ([] : List Nat) → F k = Fa k) ∧ (∀ k : Nat, k ∉ ([3] : List Nat) → R k = Ra k) ∧ (∀ k : Nat, k ∉ ([] : List Nat) → G k = Ga k) ∧ rK1 (Ra 3) (R 3))) 0 0 (mz_W ad am) := by
  refine mz_met (y := yX13_putBack) (cc := cX13_putBack) (maxL := 3) (ret := none) (av := [.ref am, .int p1]) _ (by decide) (Nat.le_of_ble_eq_true rfl) ?_
  intro p e s m args below meth c hx hb hr hml hts htl hown hlocks hK H locs hM hS ls hl
  have hown : s.vm.findClass RX13 = some m.cls := hown
  have hl : lv_has ls 3 [(0, .ref am), (1, .int p1)] := hl
  have hr_p1 := tk_rng p1
  refine lv_iconst (v := 0) hx hb dX13_putBack_0 (by decide) ?_
  refine lv_istore_n (lv' := [(2, .int 0), (0, .ref am), (1, .int p1)]) hx hb dX13_putBack_1 rfl hl (by decide) rfl (fun ls hl => ?_)
  have hI9 := hIR
  have hIR := hIR.hole (X := [3])
  obtain ⟨cf, ecf⟩ : ∃ z : Nat → Int32, Ra 6 = z := ⟨_, rfl⟩
  obtain ⟨cg, ecg⟩ : ∃ z : Nat → Int32, Ra 3 = z := ⟨_, rfl⟩
  have hl62 : ∀ (N_l62 : Nat) (v13 : Int32) (H : Heap) (locs : List Loc) (R : Nat → Nat → Int32), (0 ≤ v13.toInt) → (v13.toInt ≤ 52) → (mz_S D cy ad am Fa Ga R Sa H) → (va_S (mz_W ad am) s.heap H locs) → (mz_IR [3] true R) → (∀ k : Nat, k ∉ ([3] : List Nat) → R k = Ra k) → (rK1 (Ra 3) (R 3)) → (R 3 = va_cpy cf cg (52 * p1.toInt.toNat) 6 v13.toInt.toNat) → (R 6 = cf) → ((-1) * v13.toInt + 57 < (N_l62 : Int)) → ∀ ls : Array Slot, lv_has ls 3 [(2, .int v13), (0, .ref am), (1, .int p1)] → W p l e ({ frames := 3, cells := 0, slots := 0, locals := 140 }) s m args below meth c H locs 0 0 (MQ below (mz_w D cy ad am (fun F G R S => mz_IF true F ∧ mz_IG G ∧ mz_IR [] true R ∧ (∀ k : Nat, k ∉ ([] : List Nat) → F k = Fa k) ∧ (∀ k : Nat, k ∉ ([3] : List Nat) → R k = Ra k) ∧ (∀ k : Nat, k ∉ ([] : List Nat) → G k = Ga k) ∧ rK1 (Ra 3) (R 3))) args s 0 0 (mz_W ad am)) (F0 m 2 ls []) := by
    intro N_l62
    induction N_l62 with
    | zero => intro v13 H locs R hq0_l62 hq1_l62 hM hS hIR hRR hrel hcp hcs hm_l62 ls hl; exfalso; omega
    | succ N_l62 ih_l62 =>
      intro v13 H locs R hq0_l62 hq1_l62 hM hS hIR hRR hrel hcp hcs hm_l62 ls hl
      refine lv_iload_n hx hb dX13_putBack_2 rfl (lv_at hl 0 rfl) ?_
      refine lv_bipush (v := 52) hx hb dX13_putBack_3 (by decide) ?_
      refine lv_icmp_ge (tgt := 34) hx hb dX13_putBack_5 (by decide) (fun c9 => ?_) (fun c9 => ?_)
      · have hc63 : 52 ≤ v13.toInt := (fi_le (show (52 : Int32).toInt = 52 by decide) rfl).mp c9
        have e9 : v13.toInt.toNat = 52 := by omega
        rw [e9] at hcp
        have hIR := hIR.close (by rw [hcp]; exact mz_back3 (by rw [← ecg]; exact hI9.at 3) ((show ∀ s : Nat, s < 23 → sO cf (52 * s) by rw [← ecf]; exact hI9.at 6) p1.toInt.toNat (by omega)))
        exact mz_vret hx hb hr hlocks ⟨hIF, hIG, hIR, (fun _ _ => rfl), hRR, (fun _ _ => rfl), hrel⟩ hM hS dX13_putBack_34
      · have hc63 : ¬ (52 ≤ v13.toInt) := fun h9 => c9 ((fi_le (show (52 : Int32).toInt = 52 by decide) rfl).mpr h9)
        refine lv_aload_n hx hb dX13_putBack_8 rfl (lv_at hl 1 rfl) ?_
        refine mz_getR hx hb htl hown hK hM 3 (Nat.le_of_ble_eq_true rfl) (Nat.le_of_ble_eq_true rfl) (htl _ mw_188) (fun _ h9 => h9) dX13_putBack_9 ?_
        refine lv_bipush (v := 6) hx hb dX13_putBack_12 (by decide) ?_
        refine lv_iload_n hx hb dX13_putBack_14 rfl (lv_at hl 0 rfl) ?_
        refine lv_iadd hx hb dX13_putBack_15 ?_
        refine tk_add (show (6 : Int32).toInt = 6 by decide) rfl (by omega) (by omega) (fun v64 h_v64 => ?_)
        refine lv_aload_n hx hb dX13_putBack_16 rfl (lv_at hl 1 rfl) ?_
        refine mz_getR hx hb htl hown hK hM 6 (Nat.le_of_ble_eq_true rfl) (Nat.le_of_ble_eq_true rfl) (htl _ mw_191) (fun _ h9 => h9) dX13_putBack_17 ?_
        refine lv_bipush (v := 52) hx hb dX13_putBack_20 (by decide) ?_
        refine lv_iload_n hx hb dX13_putBack_22 rfl (lv_at hl 2 rfl) ?_
        refine lv_imul hx hb dX13_putBack_23 ?_
        refine tk_mul (show (52 : Int32).toInt = 52 by decide) rfl (by omega) (by omega) (fun v65 h_v65 => ?_)
        refine lv_iload_n hx hb dX13_putBack_24 rfl (lv_at hl 0 rfl) ?_
        refine lv_iadd hx hb dX13_putBack_25 ?_
        refine tk_add rfl rfl (by omega) (by omega) (fun v66 h_v66 => ?_)
        refine mz_iald hx hb hK hM 6 (Nat.le_of_ble_eq_true rfl) rfl (nn := 1196) rfl rfl (by omega) (by omega) dX13_putBack_26 (fun v67 e_v67 => ?_)
        have hq_v67 := tk_rng v67
        refine mz_iast (x := v67) hx hb hK hD hM hS 3 (Nat.le_of_ble_eq_true rfl) rfl (nn := 5560) rfl rfl (by omega) (by omega) dX13_putBack_27 (fun H locs R hM hS hw9 hj9 => ?_)
        have hIR := hIR.putX hj9 (by decide)
        have hcp := mz_cps (sp := (52 * p1.toInt.toNat)) (dp := 6) (n := v13.toInt.toNat) hw9 hcp (by omega) (by rw [← e_v67, hcs]; congr 1; have h9 := tk_nat (i := v66) rfl (by omega); omega)
        have hcs := (hj9 6 (by decide)).trans hcs
        have hRR := mz_frp (K := [3]) (Fa := Ra) hj9 hRR (by decide)
        have hrel := rK1.put (I := v64.toInt) hrel hw9 rfl (by omega) (by omega)
        have e_v67 : R 6 (v66 : Int32).toNatClampNeg = _ := (congrFun (hj9 6 (by decide)) _).trans e_v67
        obtain ⟨v69, h_v69, e_v69⟩ := tk_inc v13 1 (by decide) (by omega) (by omega)
        refine lv_iinc (v := v69) (lv' := [(2, .int v69), (0, .ref am), (1, .int p1)]) hx hb dX13_putBack_28 hl (k := 0) rfl e_v69 (by decide) rfl (fun ls hl => ?_)
        refine lv_goto (tgt := 2) hx hb dX13_putBack_31 (by decide) ?_
        exact ih_l62 v69 _ _ _ (by omega) (by omega) hM hS hIR hRR hrel (by rw [show v69.toInt.toNat = v13.toInt.toNat + 1 by omega]; exact hcp) hcs (by omega) _ (lv_sub hl [0, 1, 2] rfl)
  have hk_0 : (0 : Int32).toInt = 0 := by decide
  exact hl62 58 0 _ _ _ (by omega) (by omega) hM hS hIR (fun _ _ => rfl) (rK1.refl rfl) (by rw [show (0 : Int32).toInt.toNat = 0 by decide, mz_cp0]; exact ecg) ecf (by omega) _ (lv_sub hl [0, 1, 2] rfl)
end
