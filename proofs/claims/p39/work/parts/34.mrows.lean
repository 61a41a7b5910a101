theorem dX13_in_0 : decode cX13_in 0 = .ok (.lload_n 0, 1) := by decide +kernel
theorem dX13_in_1 : decode cX13_in 1 = .ok (.lload_n 2, 1) := by decide +kernel
theorem dX13_in_2 : decode cX13_in 2 = .ok (.lcmp, 1) := by decide +kernel
theorem dX13_in_3 : decode cX13_in 3 = .ok (.ifCond .lt 14, 3) := by decide +kernel
theorem dX13_in_17 : decode cX13_in 17 = .ok (.iconst 0, 1) := by decide +kernel
theorem dX13_in_18 : decode cX13_in 18 = .ok (.ireturn, 1) := by decide +kernel
theorem dX13_in_6 : decode cX13_in 6 = .ok (.lload_n 0, 1) := by decide +kernel
theorem dX13_in_7 : decode cX13_in 7 = .ok (.lload 4, 2) := by decide +kernel
theorem dX13_in_9 : decode cX13_in 9 = .ok (.lcmp, 1) := by decide +kernel
theorem dX13_in_10 : decode cX13_in 10 = .ok (.ifCond .gt 7, 3) := by decide +kernel
theorem dX13_in_13 : decode cX13_in 13 = .ok (.iconst 1, 1) := by decide +kernel
theorem dX13_in_14 : decode cX13_in 14 = .ok (.goto 4, 3) := by decide +kernel
set_option maxHeartbeats 4000000 in
set_option maxRecDepth 100000 in
theorem k_X13_in (l : Launch) (D : va_G) (cy : Nat → ClassId) (ld ad : Nat → Nat) (am : Nat) (hD : mz_D ad am) (Fa : Nat → Int32) (Ga : Nat → Int64) (Ra : Nat → Nat → Int32) (Sa : Nat → Nat → Int64) (p0 : Int64) (p1 : Int64) (p2 : Int64) : Met l yX13_in (wl yX13_in cX13_in 6 (some .boolean)) ({ frames := 3, cells := 0, slots := 0, locals := 140 }) (mz_p D cy ld ad am Fa Ga Ra Sa [.long p0, .long p1, .long p2]) (mz_j D cy ad am Fa Ga Ra Sa (fun r => (1 ≤ r.toInt → 0 ≤ p0.toInt + (-1) * p1.toInt ∧ 0 ≤ (-1) * p0.toInt + p2.toInt) ∧ (r.toInt ≤ 0 → 0 ≤ p0.toInt + (-1) * p1.toInt → 0 ≤ p0.toInt + (-1) * p2.toInt + (-1)) ∧ 0 ≤ r.toInt ∧ r.toInt ≤ 1 ∧ 0 ≤ r.toInt ∧ r.toInt ≤ 1)) 0 0 (mz_W ad am) := by
  refine mz_met (y := yX13_in) (cc := cX13_in) (maxL := 6) (ret := (some .boolean)) (av := [.long p0, .long p1, .long p2]) _ (by decide) (Nat.le_of_ble_eq_true rfl) ?_
  intro p e s m args below meth c hx hb hr hml hts htl hown hlocks hK H locs hM hS ls hl
  have hown : s.vm.findClass RX13 = some m.cls := hown
  have hl : lv_has ls 6 [(0, .long p0), (2, .long p1), (4, .long p2)] := hl
  refine lv_lload_n hx hb dX13_in_0 rfl (lv_at hl 0 rfl) ?_
  refine lv_lload_n hx hb dX13_in_1 rfl (lv_at hl 1 rfl) ?_
  refine W.lcmp hx hb dX13_in_2 ?_
  refine lv_if_lt (tgt := 17) hx hb dX13_in_3 (by decide) (fun c9 => ?_) (fun c9 => ?_)
  · have hc1 : p0.toInt < p1.toInt := ((lg_cmp_lt _ _).trans (fl_lt rfl rfl)).mp c9
    refine lv_iconst (v := 0) hx hb dX13_in_17 (by decide) ?_
    have hk_0 : (0 : Int32).toInt = 0 := by decide
    exact mz_jret (v := 0) hx hb hr rfl hlocks ⟨(by omega), (by omega), (by omega), (by omega), (by omega), (by omega)⟩ hM hS dX13_in_18
  · have hc1 : ¬ (p0.toInt < p1.toInt) := fun h9 => c9 (((lg_cmp_lt _ _).trans (fl_lt rfl rfl)).mpr h9)
    refine lv_lload_n hx hb dX13_in_6 rfl (lv_at hl 0 rfl) ?_
    refine lv_lload hx hb dX13_in_7 (lv_at hl 2 rfl) ?_
    refine W.lcmp hx hb dX13_in_9 ?_
    refine lv_if_gt (tgt := 17) hx hb dX13_in_10 (by decide) (fun c9 => ?_) (fun c9 => ?_)
    · have hc2 : p2.toInt < p0.toInt := ((lg_cmp_gt _ _).trans (fl_lt rfl rfl)).mp c9
      refine lv_iconst (v := 0) hx hb dX13_in_17 (by decide) ?_
      have hk_0 : (0 : Int32).toInt = 0 := by decide
      exact mz_jret (v := 0) hx hb hr rfl hlocks ⟨(by omega), (by omega), (by omega), (by omega), (by omega), (by omega)⟩ hM hS dX13_in_18
    · have hc2 : ¬ (p2.toInt < p0.toInt) := fun h9 => c9 (((lg_cmp_gt _ _).trans (fl_lt rfl rfl)).mpr h9)
      refine lv_iconst (v := 1) hx hb dX13_in_13 (by decide) ?_
      refine lv_goto (tgt := 18) hx hb dX13_in_14 (by decide) ?_
      have hk_1 : (1 : Int32).toInt = 1 := by decide
      exact mz_jret (v := 1) hx hb hr rfl hlocks ⟨(by omega), (by omega), (by omega), (by omega), (by omega), (by omega)⟩ hM hS dX13_in_18
theorem dX13_is_0 : decode cX13_is 0 = .ok (.iload_n 0, 1) := by decide +kernel
theorem dX13_is_1 : decode cX13_is 1 = .ok (.iload_n 1, 1) := by decide +kernel
theorem dX13_is_2 : decode cX13_is 2 = .ok (.ishr, 1) := by decide +kernel
theorem dX13_is_3 : decode cX13_is 3 = .ok (.iconst 1, 1) := by decide +kernel
theorem dX13_is_4 : decode cX13_is 4 = .ok (.iand, 1) := by decide +kernel
theorem dX13_is_5 : decode cX13_is 5 = .ok (.iconst 1, 1) := by decide +kernel
theorem dX13_is_6 : decode cX13_is 6 = .ok (.if_icmp .ne 7, 3) := by decide +kernel
theorem dX13_is_13 : decode cX13_is 13 = .ok (.iconst 0, 1) := by decide +kernel
theorem dX13_is_14 : decode cX13_is 14 = .ok (.ireturn, 1) := by decide +kernel
theorem dX13_is_9 : decode cX13_is 9 = .ok (.iconst 1, 1) := by decide +kernel
theorem dX13_is_10 : decode cX13_is 10 = .ok (.goto 4, 3) := by decide +kernel
set_option maxHeartbeats 4000000 in
set_option maxRecDepth 100000 in
theorem k_X13_is (l : Launch) (D : va_G) (cy : Nat → ClassId) (ld ad : Nat → Nat) (am : Nat) (hD : mz_D ad am) (Fa : Nat → Int32) (Ga : Nat → Int64) (Ra : Nat → Nat → Int32) (Sa : Nat → Nat → Int64) (p0 : Int32) (p1 : Int32) : Met l yX13_is (wl yX13_is cX13_is 2 (some .boolean)) ({ frames := 3, cells := 0, slots := 0, locals := 140 }) (mz_p D cy ld ad am Fa Ga Ra Sa [.int p0, .int p1]) (mz_j D cy ad am Fa Ga Ra Sa (fun r => 0 ≤ r.toInt ∧ r.toInt ≤ 1 ∧ 0 ≤ r.toInt ∧ r.toInt ≤ 1)) 0 0 (mz_W ad am) := by
  refine mz_met (y := yX13_is) (cc := cX13_is) (maxL := 2) (ret := (some .boolean)) (av := [.int p0, .int p1]) _ (by decide) (Nat.le_of_ble_eq_true rfl) ?_
  intro p e s m args below meth c hx hb hr hml hts htl hown hlocks hK H locs hM hS ls hl
  have hown : s.vm.findClass RX13 = some m.cls := hown
  have hl : lv_has ls 2 [(0, .int p0), (1, .int p1)] := hl
  have hr_p0 := tk_rng p0
  have hr_p1 := tk_rng p1
  refine lv_iload_n hx hb dX13_is_0 rfl (lv_at hl 0 rfl) ?_
  refine lv_iload_n hx hb dX13_is_1 rfl (lv_at hl 1 rfl) ?_
  refine lv_ishr hx hb dX13_is_2 ?_
  refine tk_any (fun v1 => ?_)
  refine lv_iconst (v := 1) hx hb dX13_is_3 (by decide) ?_
  refine lv_iand hx hb dX13_is_4 ?_
  refine tk_say (P := fun z => 0 ≤ z.toInt ∧ z.toInt ≤ 1) (tk_and v1 1 (by decide) (by decide)) (fun v2 h_v2 => ?_)
  refine lv_iconst (v := 1) hx hb dX13_is_5 (by decide) ?_
  refine lv_icmp_ne (tgt := 13) hx hb dX13_is_6 (by decide) (fun c9 => ?_) (fun c9 => ?_)
  · have hc3 : ¬ (v2.toInt = 1) := fun h9 => c9 ((fi_eq rfl (show (1 : Int32).toInt = 1 by decide)).mpr h9)
    refine lv_iconst (v := 0) hx hb dX13_is_13 (by decide) ?_
    have hk_0 : (0 : Int32).toInt = 0 := by decide
    exact mz_jret (v := 0) hx hb hr rfl hlocks ⟨(by omega), (by omega), (by omega), (by omega)⟩ hM hS dX13_is_14
  · have hc3 : v2.toInt = 1 := (fi_eq rfl (show (1 : Int32).toInt = 1 by decide)).mp c9
    refine lv_iconst (v := 1) hx hb dX13_is_9 (by decide) ?_
    refine lv_goto (tgt := 14) hx hb dX13_is_10 (by decide) ?_
    have hk_1 : (1 : Int32).toInt = 1 := by decide
    exact mz_jret (v := 1) hx hb hr rfl hlocks ⟨(by omega), (by omega), (by omega), (by omega)⟩ hM hS dX13_is_14
theorem dX13_ones_0 : decode cX13_ones 0 = .ok (.iconst 0, 1) := by decide +kernel
theorem dX13_ones_1 : decode cX13_ones 1 = .ok (.istore_n 1, 1) := by decide +kernel
theorem dX13_ones_2 : decode cX13_ones 2 = .ok (.iconst 0, 1) := by decide +kernel
theorem dX13_ones_3 : decode cX13_ones 3 = .ok (.istore_n 2, 1) := by decide +kernel
theorem dX13_ones_4 : decode cX13_ones 4 = .ok (.iload_n 2, 1) := by decide +kernel
theorem dX13_ones_5 : decode cX13_ones 5 = .ok (.bipush 8, 2) := by decide +kernel
theorem dX13_ones_7 : decode cX13_ones 7 = .ok (.if_icmp .ge 17, 3) := by decide +kernel
theorem dX13_ones_24 : decode cX13_ones 24 = .ok (.iload_n 1, 1) := by decide +kernel
theorem dX13_ones_25 : decode cX13_ones 25 = .ok (.ireturn, 1) := by decide +kernel
theorem dX13_ones_10 : decode cX13_ones 10 = .ok (.iload_n 1, 1) := by decide +kernel
theorem dX13_ones_11 : decode cX13_ones 11 = .ok (.iload_n 0, 1) := by decide +kernel
theorem dX13_ones_12 : decode cX13_ones 12 = .ok (.iload_n 2, 1) := by decide +kernel
theorem dX13_ones_13 : decode cX13_ones 13 = .ok (.ishr, 1) := by decide +kernel
theorem dX13_ones_14 : decode cX13_ones 14 = .ok (.iconst 1, 1) := by decide +kernel
theorem dX13_ones_15 : decode cX13_ones 15 = .ok (.iand, 1) := by decide +kernel
theorem dX13_ones_16 : decode cX13_ones 16 = .ok (.iadd, 1) := by decide +kernel
theorem dX13_ones_17 : decode cX13_ones 17 = .ok (.istore_n 1, 1) := by decide +kernel
theorem dX13_ones_18 : decode cX13_ones 18 = .ok (.iinc 2 1, 3) := by decide +kernel
theorem dX13_ones_21 : decode cX13_ones 21 = .ok (.goto (-17), 3) := by decide +kernel
set_option maxHeartbeats 4000000 in
set_option maxRecDepth 100000 in
theorem k_X13_ones (l : Launch) (D : va_G) (cy : Nat → ClassId) (ld ad : Nat → Nat) (am : Nat) (hD : mz_D ad am) (Fa : Nat → Int32) (Ga : Nat → Int64) (Ra : Nat → Nat → Int32) (Sa : Nat → Nat → Int64) (p0 : Int32) : Met l yX13_ones (wl yX13_ones cX13_ones 3 (some .int)) ({ frames := 3, cells := 0, slots := 0, locals := 140 }) (mz_p D cy ld ad am Fa Ga Ra Sa [.int p0]) (mz_j D cy ad am Fa Ga Ra Sa (fun r => 0 ≤ r.toInt ∧ r.toInt ≤ 8)) 0 0 (mz_W ad am) := by
  refine mz_met (y := yX13_ones) (cc := cX13_ones) (maxL := 3) (ret := (some .int)) (av := [.int p0]) _ (by decide) (Nat.le_of_ble_eq_true rfl) ?_
  intro p e s m args below meth c hx hb hr hml hts htl hown hlocks hK H locs hM hS ls hl
  have hown : s.vm.findClass RX13 = some m.cls := hown
  have hl : lv_has ls 3 [(0, .int p0)] := hl
  have hr_p0 := tk_rng p0
  refine lv_iconst (v := 0) hx hb dX13_ones_0 (by decide) ?_
  refine lv_istore_n (lv' := [(1, .int 0), (0, .int p0)]) hx hb dX13_ones_1 rfl hl (by decide) rfl (fun ls hl => ?_)
  refine lv_iconst (v := 0) hx hb dX13_ones_2 (by decide) ?_
  refine lv_istore_n (lv' := [(2, .int 0), (1, .int 0), (0, .int p0)]) hx hb dX13_ones_3 rfl hl (by decide) rfl (fun ls hl => ?_)
  have hl85 : ∀ (N_l85 : Nat) (v25 : Int32) (v26 : Int32), (v25.toInt ≤ 8) → (0 ≤ v26.toInt) → (0 ≤ v25.toInt + (-1) * v26.toInt) → ((-1) * v25.toInt + 8 < (N_l85 : Int)) → ∀ ls : Array Slot, lv_has ls 3 [(2, .int v25), (1, .int v26), (0, .int p0)] → W p l e ({ frames := 3, cells := 0, slots := 0, locals := 140 }) s m args below meth c H locs 0 0 (MQ below (mz_j D cy ad am Fa Ga Ra Sa (fun r => 0 ≤ r.toInt ∧ r.toInt ≤ 8)) args s 0 0 (mz_W ad am)) (F0 m 4 ls []) := by
    intro N_l85
    induction N_l85 with
    | zero => intro v25 v26 hq0_l85 hq1_l85 hq2_l85 hm_l85 ls hl; exfalso; omega
    | succ N_l85 ih_l85 =>
      intro v25 v26 hq0_l85 hq1_l85 hq2_l85 hm_l85 ls hl
      refine lv_iload_n hx hb dX13_ones_4 rfl (lv_at hl 0 rfl) ?_
      refine lv_bipush (v := 8) hx hb dX13_ones_5 (by decide) ?_
      refine lv_icmp_ge (tgt := 24) hx hb dX13_ones_7 (by decide) (fun c9 => ?_) (fun c9 => ?_)
      · have hc86 : 8 ≤ v25.toInt := (fi_le (show (8 : Int32).toInt = 8 by decide) rfl).mp c9
        refine lv_iload_n hx hb dX13_ones_24 rfl (lv_at hl 1 rfl) ?_
        exact mz_jret (v := v26) hx hb hr rfl hlocks ⟨(by omega), (by omega)⟩ hM hS dX13_ones_25
      · have hc86 : ¬ (8 ≤ v25.toInt) := fun h9 => c9 ((fi_le (show (8 : Int32).toInt = 8 by decide) rfl).mpr h9)
        refine lv_iload_n hx hb dX13_ones_10 rfl (lv_at hl 1 rfl) ?_
        refine lv_iload_n hx hb dX13_ones_11 rfl (lv_at hl 2 rfl) ?_
        refine lv_iload_n hx hb dX13_ones_12 rfl (lv_at hl 0 rfl) ?_
        refine lv_ishr hx hb dX13_ones_13 ?_
        refine tk_any (fun v91 => ?_)
        refine lv_iconst (v := 1) hx hb dX13_ones_14 (by decide) ?_
        refine lv_iand hx hb dX13_ones_15 ?_
        refine tk_say (P := fun z => 0 ≤ z.toInt ∧ z.toInt ≤ 1) (tk_and v91 1 (by decide) (by decide)) (fun v92 h_v92 => ?_)
        refine lv_iadd hx hb dX13_ones_16 ?_
        refine tk_add rfl rfl (by omega) (by omega) (fun v93 h_v93 => ?_)
        refine lv_istore_n (lv' := [(1, .int v93), (2, .int v25), (0, .int p0)]) hx hb dX13_ones_17 rfl hl (by decide) rfl (fun ls hl => ?_)
        obtain ⟨v94, h_v94, e_v94⟩ := tk_inc v25 1 (by decide) (by omega) (by omega)
        refine lv_iinc (v := v94) (lv' := [(2, .int v94), (1, .int v93), (0, .int p0)]) hx hb dX13_ones_18 hl (k := 1) rfl e_v94 (by decide) rfl (fun ls hl => ?_)
        refine lv_goto (tgt := 4) hx hb dX13_ones_21 (by decide) ?_
        exact ih_l85 v94 v93 (by omega) (by omega) (by omega) (by omega) _ (lv_sub hl [0, 1, 2] rfl)
  have hk_0 : (0 : Int32).toInt = 0 := by decide
  have hk_0 : (0 : Int32).toInt = 0 := by decide
  exact hl85 9 0 0 (by omega) (by omega) (by omega) (by omega) _ (lv_sub hl [0, 1, 2] rfl)
theorem dX13_within_0 : decode cX13_within 0 = .ok (.lload_n 0, 1) := by decide +kernel
theorem dX13_within_1 : decode cX13_within 1 = .ok (.iload_n 2, 1) := by decide +kernel
theorem dX13_within_2 : decode cX13_within 2 = .ok (.i2l, 1) := by decide +kernel
theorem dX13_within_3 : decode cX13_within 3 = .ok (.lcmp, 1) := by decide +kernel
theorem dX13_within_4 : decode cX13_within 4 = .ok (.ifCond .ge 7, 3) := by decide +kernel
theorem dX13_within_11 : decode cX13_within 11 = .ok (.lload_n 0, 1) := by decide +kernel
theorem dX13_within_12 : decode cX13_within 12 = .ok (.iload_n 3, 1) := by decide +kernel
theorem dX13_within_13 : decode cX13_within 13 = .ok (.i2l, 1) := by decide +kernel
theorem dX13_within_14 : decode cX13_within 14 = .ok (.lcmp, 1) := by decide +kernel
theorem dX13_within_15 : decode cX13_within 15 = .ok (.ifCond .le 7, 3) := by decide +kernel
theorem dX13_within_22 : decode cX13_within 22 = .ok (.lload_n 0, 1) := by decide +kernel
theorem dX13_within_23 : decode cX13_within 23 = .ok (.l2i, 1) := by decide +kernel
theorem dX13_within_24 : decode cX13_within 24 = .ok (.ireturn, 1) := by decide +kernel
theorem dX13_within_18 : decode cX13_within 18 = .ok (.iload_n 3, 1) := by decide +kernel
theorem dX13_within_19 : decode cX13_within 19 = .ok (.goto 5, 3) := by decide +kernel
theorem dX13_within_7 : decode cX13_within 7 = .ok (.iload_n 2, 1) := by decide +kernel
theorem dX13_within_8 : decode cX13_within 8 = .ok (.goto 16, 3) := by decide +kernel
set_option maxHeartbeats 4000000 in
set_option maxRecDepth 100000 in
theorem k_X13_within (l : Launch) (D : va_G) (cy : Nat → ClassId) (ld ad : Nat → Nat) (am : Nat) (hD : mz_D ad am) (Fa : Nat → Int32) (Ga : Nat → Int64) (Ra : Nat → Nat → Int32) (Sa : Nat → Nat → Int64) (p0 : Int64) (p1 : Int32) (p2 : Int32) (hp_0 : 0 ≤ (-1) * p1.toInt + p2.toInt) : Met l yX13_within (wl yX13_within cX13_within 4 (some .int)) ({ frames := 3, cells := 0, slots := 0, locals := 140 }) (mz_p D cy ld ad am Fa Ga Ra Sa [.long p0, .int p1, .int p2]) (mz_j D cy ad am Fa Ga Ra Sa (fun r => 0 ≤ (-1) * p1.toInt + r.toInt ∧ 0 ≤ p2.toInt + (-1) * r.toInt)) 0 0 (mz_W ad am) := by
  refine mz_met (y := yX13_within) (cc := cX13_within) (maxL := 4) (ret := (some .int)) (av := [.long p0, .int p1, .int p2]) _ (by decide) (Nat.le_of_ble_eq_true rfl) ?_
  intro p e s m args below meth c hx hb hr hml hts htl hown hlocks hK H locs hM hS ls hl
  have hown : s.vm.findClass RX13 = some m.cls := hown
  have hl : lv_has ls 4 [(0, .long p0), (2, .int p1), (3, .int p2)] := hl
  have hr_p1 := tk_rng p1
  have hr_p2 := tk_rng p2
  refine lv_lload_n hx hb dX13_within_0 rfl (lv_at hl 0 rfl) ?_
  refine lv_iload_n hx hb dX13_within_1 rfl (lv_at hl 1 rfl) ?_
  obtain ⟨w1, e_w1, h_w1⟩ : ∃ z : Int64, p1.toInt64 = z ∧ z.toInt = p1.toInt := ⟨_, rfl, fl_w _⟩
  refine lv_i2l (v := w1) hx hb dX13_within_2 e_w1 ?_
  refine W.lcmp hx hb dX13_within_3 ?_
  refine lv_if_ge (tgt := 11) hx hb dX13_within_4 (by decide) (fun c9 => ?_) (fun c9 => ?_)
  · have hc2 : w1.toInt ≤ p0.toInt := ((lg_cmp_ge _ _).trans (fl_le rfl rfl)).mp c9
    refine lv_lload_n hx hb dX13_within_11 rfl (lv_at hl 0 rfl) ?_
    refine lv_iload_n hx hb dX13_within_12 rfl (lv_at hl 2 rfl) ?_
    obtain ⟨w3, e_w3, h_w3⟩ : ∃ z : Int64, p2.toInt64 = z ∧ z.toInt = p2.toInt := ⟨_, rfl, fl_w _⟩
    refine lv_i2l (v := w3) hx hb dX13_within_13 e_w3 ?_
    refine W.lcmp hx hb dX13_within_14 ?_
    refine lv_if_le (tgt := 22) hx hb dX13_within_15 (by decide) (fun c9 => ?_) (fun c9 => ?_)
    · have hc4 : p0.toInt ≤ w3.toInt := ((lg_cmp_le _ _).trans (fl_le rfl rfl)).mp c9
      refine lv_lload_n hx hb dX13_within_22 rfl (lv_at hl 0 rfl) ?_
      obtain ⟨v5, e_v5, h_v5⟩ : ∃ z : Int32, p0.toInt32 = z ∧ z.toInt = p0.toInt := ⟨_, rfl, tk_l2i (by omega) (by omega)⟩
      refine lv_l2i (v := v5) hx hb dX13_within_23 e_v5 ?_
      exact mz_jret (v := v5) hx hb hr rfl hlocks ⟨(by omega), (by omega)⟩ hM hS dX13_within_24
    · have hc4 : ¬ (p0.toInt ≤ w3.toInt) := fun h9 => c9 (((lg_cmp_le _ _).trans (fl_le rfl rfl)).mpr h9)
      refine lv_iload_n hx hb dX13_within_18 rfl (lv_at hl 2 rfl) ?_
      refine lv_goto (tgt := 24) hx hb dX13_within_19 (by decide) ?_
      exact mz_jret (v := p2) hx hb hr rfl hlocks ⟨(by omega), (by omega)⟩ hM hS dX13_within_24
  · have hc2 : ¬ (w1.toInt ≤ p0.toInt) := fun h9 => c9 (((lg_cmp_ge _ _).trans (fl_le rfl rfl)).mpr h9)
    refine lv_iload_n hx hb dX13_within_7 rfl (lv_at hl 1 rfl) ?_
    refine lv_goto (tgt := 24) hx hb dX13_within_8 (by decide) ?_
    exact mz_jret (v := p1) hx hb hr rfl hlocks ⟨(by omega), (by omega)⟩ hM hS dX13_within_24
theorem dX13_tell_0 : decode cX13_tell 0 = .ok (.aload_n 0, 1) := by decide +kernel
theorem dX13_tell_1 : decode cX13_tell 1 = .ok (.iload_n 1, 1) := by decide +kernel
theorem dX13_tell_10 : decode cX13_tell 10 = .ok (.putfield 173, 3) := by decide +kernel
theorem dX13_tell_13 : decode cX13_tell 13 = .ok (.iload_n 1, 1) := by decide +kernel
theorem dX13_tell_28 : decode cX13_tell 28 = .ok (.iload_n 1, 1) := by decide +kernel
theorem dX13_tell_29 : decode cX13_tell 29 = .ok (.ireturn, 1) := by decide +kernel
theorem dX13_tell_14 : decode cX13_tell 14 = .ok (.ifCond .ge 14, 3) := by decide +kernel
theorem dX13_tell_17 : decode cX13_tell 17 = .ok (.aload_n 0, 1) := by decide +kernel
theorem dX13_tell_18 : decode cX13_tell 18 = .ok (.getfield 7, 3) := by decide +kernel
theorem dX13_tell_21 : decode cX13_tell 21 = .ok (.iload_n 1, 1) := by decide +kernel
theorem dX13_tell_22 : decode cX13_tell 22 = .ok (.ineg, 1) := by decide +kernel
theorem dX13_tell_23 : decode cX13_tell 23 = .ok (.dup2, 1) := by decide +kernel
theorem dX13_tell_24 : decode cX13_tell 24 = .ok (.iaload, 1) := by decide +kernel
theorem dX13_tell_25 : decode cX13_tell 25 = .ok (.iconst 1, 1) := by decide +kernel
theorem dX13_tell_26 : decode cX13_tell 26 = .ok (.iadd, 1) := by decide +kernel
theorem dX13_tell_27 : decode cX13_tell 27 = .ok (.iastore, 1) := by decide +kernel
theorem dX13_tell_2 : decode cX13_tell 2 = .ok (.ifCond .ge 7, 3) := by decide +kernel
theorem dX13_tell_9 : decode cX13_tell 9 = .ok (.iconst 0, 1) := by decide +kernel
theorem dX13_tell_5 : decode cX13_tell 5 = .ok (.iload_n 1, 1) := by decide +kernel
theorem dX13_tell_6 : decode cX13_tell 6 = .ok (.goto 4, 3) := by decide +kernel
set_option maxHeartbeats 4000000 in
set_option maxRecDepth 100000 in
theorem k_X13_tell (l : Launch) (D : va_G) (cy : Nat → ClassId) (ld ad : Nat → Nat) (am : Nat) (hD : mz_D ad am) (Fa : Nat → Int32) (Ga : Nat → Int64) (Ra : Nat → Nat → Int32) (Sa : Nat → Nat → Int64) (p1 : Int32) (hIF : mz_IF true Fa) (hIG : mz_IG Ga) (hIR : mz_IR [] true Ra) (hp_0 : (-6) ≤ p1.toInt) (hp_1 : p1.toInt ≤ 2147483647) : Met l yX13_tell (wl yX13_tell cX13_tell 2 (some .int)) ({ frames := 3, cells := 0, slots := 0, locals := 140 }) (mz_p D cy ld ad am Fa Ga Ra Sa [.ref am, .int p1]) (mz_i D cy ad am (fun r F G R S => mz_IF true F ∧ mz_IG G ∧ mz_IR [] true R ∧ (∀ k : Nat, k ∉ ([1] : List Nat) → F k = Fa k) ∧ (∀ k : Nat, k ∉ ([2] : List Nat) → R k = Ra k) ∧ (∀ k : Nat, k ∉ ([] : List Nat) → G k = Ga k) ∧ (-1) * p1.toInt + r.toInt = 0)) 0 0 (mz_W ad am) := by
  refine mz_met (y := yX13_tell) (cc := cX13_tell) (maxL := 2) (ret := (some .int)) (av := [.ref am, .int p1]) _ (by decide) (Nat.le_of_ble_eq_true rfl) ?_
  intro p e s m args below meth c hx hb hr hml hts htl hown hlocks hK H locs hM hS ls hl
  have hown : s.vm.findClass RX13 = some m.cls := hown
  have hl : lv_has ls 2 [(0, .ref am), (1, .int p1)] := hl
  have hr_p1 := tk_rng p1
  refine lv_aload_n hx hb dX13_tell_0 rfl (lv_at hl 0 rfl) ?_
  refine lv_iload_n hx hb dX13_tell_1 rfl (lv_at hl 1 rfl) ?_
  have hj4 : ∀ (v3 : Int32), ((-6) ≤ v3.toInt) → (v3.toInt ≤ 0) → (0 ≤ p1.toInt + (-1) * v3.toInt) → ∀ ls : Array Slot, lv_has ls 2 [(0, .ref am), (1, .int p1)] → W p l e ({ frames := 3, cells := 0, slots := 0, locals := 140 }) s m args below meth c H locs 0 0 (MQ below (mz_i D cy ad am (fun r F G R S => mz_IF true F ∧ mz_IG G ∧ mz_IR [] true R ∧ (∀ k : Nat, k ∉ ([1] : List Nat) → F k = Fa k) ∧ (∀ k : Nat, k ∉ ([2] : List Nat) → R k = Ra k) ∧ (∀ k : Nat, k ∉ ([] : List Nat) → G k = Ga k) ∧ (-1) * p1.toInt + r.toInt = 0)) args s 0 0 (mz_W ad am)) (F0 m 10 ls [.int v3, .ref am]) := by
    intro v3 hq0_j4 hq1_j4 hq2_j4 ls hl
    refine mz_putI (ty := .int) (x := v3) hx hb htl hown hK hD hM hS 1 (Nat.le_of_ble_eq_true rfl) rfl (htl _ mw_297) (fun _ h9 => h9) rfl (tyX13_ok 1 (by decide)) rfl rfl dX13_tell_10 (fun H locs F hM hS hf9 hj9 => ?_)
    have hIF := hIF.put hf9 hj9 (tk_rng _).1 (tk_rng _).2 (by decide)
    have hFF := mz_frp (K := [1]) (Fa := Fa) hj9 (fun _ _ => rfl) (by decide)
    have hf6 := hf9
    refine lv_iload_n hx hb dX13_tell_13 rfl (lv_at hl 1 rfl) ?_
    have hj14 : ∀ (H : Heap) (locs : List Loc) (R : Nat → Nat → Int32), (mz_S D cy ad am F Ga R Sa H) → (va_S (mz_W ad am) s.heap H locs) → (mz_IR [] true R) → (∀ k : Nat, k ∉ ([2] : List Nat) → R k = Ra k) → ∀ ls : Array Slot, lv_has ls 2 [(1, .int p1)] → W p l e ({ frames := 3, cells := 0, slots := 0, locals := 140 }) s m args below meth c H locs 0 0 (MQ below (mz_i D cy ad am (fun r F G R S => mz_IF true F ∧ mz_IG G ∧ mz_IR [] true R ∧ (∀ k : Nat, k ∉ ([1] : List Nat) → F k = Fa k) ∧ (∀ k : Nat, k ∉ ([2] : List Nat) → R k = Ra k) ∧ (∀ k : Nat, k ∉ ([] : List Nat) → G k = Ga k) ∧ (-1) * p1.toInt + r.toInt = 0)) args s 0 0 (mz_W ad am)) (F0 m 28 ls []) := by
      intro H locs R hM hS hIR hRR ls hl
      refine lv_iload_n hx hb dX13_tell_28 rfl (lv_at hl 0 rfl) ?_
      exact mz_iret (v := p1) hx hb hr rfl hlocks ⟨hIF, hIG, hIR, hFF, hRR, (fun _ _ => rfl), (by omega)⟩ hM hS dX13_tell_29
    refine lv_if_ge (tgt := 28) hx hb dX13_tell_14 (by decide) (fun c9 => ?_) (fun c9 => ?_)
    · have hc7 : 0 ≤ p1.toInt := (fi_le (show (0 : Int32).toInt = 0 by decide) rfl).mp c9
      exact hj14 _ _ _ hM hS hIR (fun _ _ => rfl) _ (lv_sub hl [1] rfl)
    · have hc7 : ¬ (0 ≤ p1.toInt) := fun h9 => c9 ((fi_le (show (0 : Int32).toInt = 0 by decide) rfl).mpr h9)
      refine lv_aload_n hx hb dX13_tell_17 rfl (lv_at hl 0 rfl) ?_
      refine mz_getR hx hb htl hown hK hM 2 (Nat.le_of_ble_eq_true rfl) (Nat.le_of_ble_eq_true rfl) (htl _ mw_187) (fun _ h9 => h9) dX13_tell_18 ?_
      refine lv_iload_n hx hb dX13_tell_21 rfl (lv_at hl 1 rfl) ?_
      refine lv_ineg hx hb dX13_tell_22 ?_
      refine tk_neg rfl (by omega) (by omega) (fun v15 h_v15 => ?_)
      refine lv_dup2_11 hx hb dX13_tell_23 rfl rfl ?_
      refine mz_iald hx hb hK hM 2 (Nat.le_of_ble_eq_true rfl) rfl (nn := 7) rfl rfl (by omega) (by omega) dX13_tell_24 (fun v16 e_v16 => ?_)
      have hq_v16 := tk_rng v16
      refine lv_iconst (v := 1) hx hb dX13_tell_25 (by decide) ?_
      refine lv_iadd hx hb dX13_tell_26 ?_
      obtain ⟨v17, hm_v17⟩ : ∃ z : Int32, v16 + 1 = z := ⟨_, rfl⟩
      refine fx_ti hm_v17 ?_
      refine mz_iast (x := v17) hx hb hK hD hM hS 2 (Nat.le_of_ble_eq_true rfl) rfl (nn := 7) rfl rfl (by omega) (by omega) dX13_tell_27 (fun H locs R hM hS hw9 hj9 => ?_)
      have hIR := hIR.put hw9 hj9 trivial
      have hRR := mz_frp (K := [2]) (Fa := Ra) hj9 (fun _ _ => rfl) (by decide)
      exact hj14 _ _ _ hM hS hIR hRR _ (lv_sub hl [1] rfl)
  refine lv_if_ge (tgt := 9) hx hb dX13_tell_2 (by decide) (fun c9 => ?_) (fun c9 => ?_)
  · have hc1 : 0 ≤ p1.toInt := (fi_le (show (0 : Int32).toInt = 0 by decide) rfl).mp c9
    refine lv_iconst (v := 0) hx hb dX13_tell_9 (by decide) ?_
    have hk_0 : (0 : Int32).toInt = 0 := by decide
    exact hj4 0 (by omega) (by omega) (by omega) _ (lv_sub hl [0, 1] rfl)
  · have hc1 : ¬ (0 ≤ p1.toInt) := fun h9 => c9 ((fi_le (show (0 : Int32).toInt = 0 by decide) rfl).mpr h9)
    refine lv_iload_n hx hb dX13_tell_5 rfl (lv_at hl 1 rfl) ?_
    refine lv_goto (tgt := 10) hx hb dX13_tell_6 (by decide) ?_
    exact hj4 p1 (by omega) (by omega) (by omega) _ (lv_sub hl [0, 1] rfl)
theorem dX13_term_0 : decode cX13_term 0 = .ok (.aload_n 0, 1) := by decide +kernel
theorem dX13_term_1 : decode cX13_term 1 = .ok (.getfield 13, 3) := by decide +kernel
theorem dX13_term_4 : decode cX13_term 4 = .ok (.bipush 6, 2) := by decide +kernel
theorem dX13_term_6 : decode cX13_term 6 = .ok (.iload_n 1, 1) := by decide +kernel
theorem dX13_term_7 : decode cX13_term 7 = .ok (.iadd, 1) := by decide +kernel
theorem dX13_term_8 : decode cX13_term 8 = .ok (.iaload, 1) := by decide +kernel
theorem dX13_term_9 : decode cX13_term 9 = .ok (.ireturn, 1) := by decide +kernel
set_option maxHeartbeats 4000000 in
set_option maxRecDepth 100000 in
theorem k_X13_term (l : Launch) (D : va_G) (cy : Nat → ClassId) (ld ad : Nat → Nat) (am : Nat) (hD : mz_D ad am) (Fa : Nat → Int32) (Ga : Nat → Int64) (Ra : Nat → Nat → Int32) (Sa : Nat → Nat → Int64) (p1 : Int32) (hIF : mz_IF true Fa) (hIG : mz_IG Ga) (hIR : mz_IR [] true Ra) (hp_0 : 0 ≤ p1.toInt) (hp_1 : p1.toInt ≤ 3) : Met l yX13_term (wl yX13_term cX13_term 2 (some .int)) ({ frames := 3, cells := 0, slots := 0, locals := 140 }) (mz_p D cy ld ad am Fa Ga Ra Sa [.ref am, .int p1]) (mz_j D cy ad am Fa Ga Ra Sa (fun r => True)) 0 0 (mz_W ad am) := by
  refine mz_met (y := yX13_term) (cc := cX13_term) (maxL := 2) (ret := (some .int)) (av := [.ref am, .int p1]) _ (by decide) (Nat.le_of_ble_eq_true rfl) ?_
  intro p e s m args below meth c hx hb hr hml hts htl hown hlocks hK H locs hM hS ls hl
  have hown : s.vm.findClass RX13 = some m.cls := hown
  have hl : lv_has ls 2 [(0, .ref am), (1, .int p1)] := hl
  have hr_p1 := tk_rng p1
  refine lv_aload_n hx hb dX13_term_0 rfl (lv_at hl 0 rfl) ?_
  refine mz_getR hx hb htl hown hK hM 3 (Nat.le_of_ble_eq_true rfl) (Nat.le_of_ble_eq_true rfl) (htl _ mw_188) (fun _ h9 => h9) dX13_term_1 ?_
  refine lv_bipush (v := 6) hx hb dX13_term_4 (by decide) ?_
  refine lv_iload_n hx hb dX13_term_6 rfl (lv_at hl 1 rfl) ?_
  refine lv_iadd hx hb dX13_term_7 ?_
  refine tk_add (show (6 : Int32).toInt = 6 by decide) rfl (by omega) (by omega) (fun v1 h_v1 => ?_)
  refine mz_iald hx hb hK hM 3 (Nat.le_of_ble_eq_true rfl) rfl (nn := 5560) rfl rfl (by omega) (by omega) dX13_term_8 (fun v2 e_v2 => ?_)
  have hq_v2 := tk_rng v2
  exact mz_jret (v := v2) hx hb hr rfl hlocks trivial hM hS dX13_term_9
theorem dX13_inDuel_0 : decode cX13_inDuel 0 = .ok (.aload_n 0, 1) := by decide +kernel
theorem dX13_inDuel_1 : decode cX13_inDuel 1 = .ok (.getfield 13, 3) := by decide +kernel
theorem dX13_inDuel_4 : decode cX13_inDuel 4 = .ok (.bipush 12, 2) := by decide +kernel
theorem dX13_inDuel_6 : decode cX13_inDuel 6 = .ok (.iload_n 1, 1) := by decide +kernel
theorem dX13_inDuel_7 : decode cX13_inDuel 7 = .ok (.iadd, 1) := by decide +kernel
theorem dX13_inDuel_8 : decode cX13_inDuel 8 = .ok (.iaload, 1) := by decide +kernel
theorem dX13_inDuel_9 : decode cX13_inDuel 9 = .ok (.ireturn, 1) := by decide +kernel
set_option maxHeartbeats 4000000 in
set_option maxRecDepth 100000 in
theorem k_X13_inDuel (l : Launch) (D : va_G) (cy : Nat → ClassId) (ld ad : Nat → Nat) (am : Nat) (hD : mz_D ad am) (Fa : Nat → Int32) (Ga : Nat → Int64) (Ra : Nat → Nat → Int32) (Sa : Nat → Nat → Int64) (p1 : Int32) (hIF : mz_IF true Fa) (hIG : mz_IG Ga) (hIR : mz_IR [] true Ra) (hp_0 : 0 ≤ p1.toInt) (hp_1 : p1.toInt ≤ 5) : Met l yX13_inDuel (wl yX13_inDuel cX13_inDuel 2 (some .int)) ({ frames := 3, cells := 0, slots := 0, locals := 140 }) (mz_p D cy ld ad am Fa Ga Ra Sa [.ref am, .int p1]) (mz_j D cy ad am Fa Ga Ra Sa (fun r => True)) 0 0 (mz_W ad am) := by
  refine mz_met (y := yX13_inDuel) (cc := cX13_inDuel) (maxL := 2) (ret := (some .int)) (av := [.ref am, .int p1]) _ (by decide) (Nat.le_of_ble_eq_true rfl) ?_
  intro p e s m args below meth c hx hb hr hml hts htl hown hlocks hK H locs hM hS ls hl
  have hown : s.vm.findClass RX13 = some m.cls := hown
  have hl : lv_has ls 2 [(0, .ref am), (1, .int p1)] := hl
  have hr_p1 := tk_rng p1
  refine lv_aload_n hx hb dX13_inDuel_0 rfl (lv_at hl 0 rfl) ?_
  refine mz_getR hx hb htl hown hK hM 3 (Nat.le_of_ble_eq_true rfl) (Nat.le_of_ble_eq_true rfl) (htl _ mw_188) (fun _ h9 => h9) dX13_inDuel_1 ?_
  refine lv_bipush (v := 12) hx hb dX13_inDuel_4 (by decide) ?_
  refine lv_iload_n hx hb dX13_inDuel_6 rfl (lv_at hl 1 rfl) ?_
  refine lv_iadd hx hb dX13_inDuel_7 ?_
  refine tk_add (show (12 : Int32).toInt = 12 by decide) rfl (by omega) (by omega) (fun v1 h_v1 => ?_)
  refine mz_iald hx hb hK hM 3 (Nat.le_of_ble_eq_true rfl) rfl (nn := 5560) rfl rfl (by omega) (by omega) dX13_inDuel_8 (fun v2 e_v2 => ?_)
  have hq_v2 := tk_rng v2
  exact mz_jret (v := v2) hx hb hr rfl hlocks trivial hM hS dX13_inDuel_9
set_option maxHeartbeats 4000000 in
set_option maxRecDepth 100000 in
theorem k_X13_inDuel_0 (l : Launch) (D : va_G) (cy : Nat → ClassId) (ld ad : Nat → Nat) (am : Nat) (hD : mz_D ad am) (Fa : Nat → Int32) (Ga : Nat → Int64) (Ra : Nat → Nat → Int32) (Sa : Nat → Nat → Int64) (g0 : Int32) (hg_0 : Ra 3 12 = g0) : Met l yX13_inDuel (wl yX13_inDuel cX13_inDuel 2 (some .int)) ({ frames := 3, cells := 0, slots := 0, locals := 140 }) (mz_p D cy ld ad am Fa Ga Ra Sa [.ref am, .int 0]) (mz_j D cy ad am Fa Ga Ra Sa (fun r => (-1) * g0.toInt + r.toInt = 0)) 0 0 (mz_W ad am) := by
  refine mz_met (y := yX13_inDuel) (cc := cX13_inDuel) (maxL := 2) (ret := (some .int)) (av := [.ref am, .int 0]) _ (by decide) (Nat.le_of_ble_eq_true rfl) ?_
  intro p e s m args below meth c hx hb hr hml hts htl hown hlocks hK H locs hM hS ls hl
  have hown : s.vm.findClass RX13 = some m.cls := hown
  have hl : lv_has ls 2 [(0, .ref am), (1, .int 0)] := hl
  have hq_g0 := tk_rng g0
  refine lv_aload_n hx hb dX13_inDuel_0 rfl (lv_at hl 0 rfl) ?_
  refine mz_getR hx hb htl hown hK hM 3 (Nat.le_of_ble_eq_true rfl) (Nat.le_of_ble_eq_true rfl) (htl _ mw_188) (fun _ h9 => h9) dX13_inDuel_1 ?_
  refine lv_bipush (v := 12) hx hb dX13_inDuel_4 (by decide) ?_
  refine lv_iload_n hx hb dX13_inDuel_6 rfl (lv_at hl 1 rfl) ?_
  refine lv_iadd hx hb dX13_inDuel_7 ?_
  refine fx_ti (v := 12) (by decide) ?_
  refine mz_iald hx hb hK hM 3 (Nat.le_of_ble_eq_true rfl) rfl (nn := 5560) rfl (I := 12) (by decide) (by decide) (by decide) dX13_inDuel_8 (fun v9 e9 => ?_)
  refine fx_ti (v := g0) (e9.symm.trans (show Ra 3 (12 : Int32).toNatClampNeg = _ from hg_0)) ?_
  exact mz_jret (v := g0) hx hb hr rfl hlocks (by omega) hM hS dX13_inDuel_9
theorem hd_yX13_inDuel : yX13_inDuel.cls ≠ "java/lang/invoke/MethodHandle" ∧ yX13_inDuel.cls ≠ "java/lang/invoke/VarHandle" ∧ (parseMethodDescriptor yX13_inDuel.desc).map (fun d => d.parameters.length) = some 1 := by decide +kernel
theorem dX13_isDuel_0 : decode cX13_isDuel 0 = .ok (.aload_n 0, 1) := by decide +kernel
theorem dX13_isDuel_1 : decode cX13_isDuel 1 = .ok (.iconst 0, 1) := by decide +kernel
theorem dX13_isDuel_2 : decode cX13_isDuel 2 = .ok (.invokevirtual 194, 3) := by decide +kernel
theorem dX13_isDuel_5 : decode cX13_isDuel 5 = .ok (.iconst (-1), 1) := by decide +kernel
theorem dX13_isDuel_6 : decode cX13_isDuel 6 = .ok (.if_icmp .eq 7, 3) := by decide +kernel
theorem dX13_isDuel_13 : decode cX13_isDuel 13 = .ok (.iconst 0, 1) := by decide +kernel
theorem dX13_isDuel_14 : decode cX13_isDuel 14 = .ok (.ireturn, 1) := by decide +kernel
theorem dX13_isDuel_9 : decode cX13_isDuel 9 = .ok (.iconst 1, 1) := by decide +kernel
theorem dX13_isDuel_10 : decode cX13_isDuel 10 = .ok (.goto 4, 3) := by decide +kernel
set_option maxHeartbeats 4000000 in
set_option maxRecDepth 100000 in
theorem k_X13_isDuel (l : Launch) (D : va_G) (cy : Nat → ClassId) (ld ad : Nat → Nat) (am : Nat) (hD : mz_D ad am) (Fa : Nat → Int32) (Ga : Nat → Int64) (Ra : Nat → Nat → Int32) (Sa : Nat → Nat → Int64) (g12 : Int32) (hIF : mz_IF true Fa) (hIG : mz_IG Ga) (hIR : mz_IR [] true Ra) (hg_0 : Ra 3 12 = g12) : Met l yX13_isDuel (wl yX13_isDuel cX13_isDuel 1 (some .boolean)) ({ frames := 4, cells := 0, slots := 0, locals := 210 }) (mz_p D cy ld ad am Fa Ga Ra Sa [.ref am]) (mz_j D cy ad am Fa Ga Ra Sa (fun r => (1 ≤ r.toInt → 0 ≤ g12.toInt) ∧ (r.toInt ≤ 0 → g12.toInt ≤ (-1)) ∧ 0 ≤ r.toInt ∧ r.toInt ≤ 1 ∧ 0 ≤ r.toInt ∧ r.toInt ≤ 1)) 0 0 (mz_W ad am) := by
  refine mz_met (y := yX13_isDuel) (cc := cX13_isDuel) (maxL := 1) (ret := (some .boolean)) (av := [.ref am]) _ (by decide) (Nat.le_of_ble_eq_true rfl) ?_
  intro p e s m args below meth c hx hb hr hml hts htl hown hlocks hK H locs hM hS ls hl
  have hown : s.vm.findClass RX13 = some m.cls := hown
  have hl : lv_has ls 1 [(0, .ref am)] := hl
  have hq_g12 := tk_rng g12
  have hr_g12 : (-1) ≤ g12.toInt ∧ g12.toInt ≤ 7 := by have h9 := hIR.d; unfold dO at h9; rw [hg_0] at h9; omega
  refine lv_aload_n hx hb dX13_isDuel_0 rfl (lv_at hl 0 rfl) ?_
  refine lv_iconst (v := 0) hx hb dX13_isDuel_1 (by decide) ?_
  have hk_0 : (0 : Int32).toInt = 0 := by decide
  refine mz_Vj (As := [.int 0]) (rest := []) ⟨hx, hb, hml, hown, hts⟩ hK hM hS (k_X13_inDuel_0 l D cy ld ad am hD _ _ _ _ g12 hg_0) ⟨callB_of 1 hts (wl_in mw_1046) rfl rfl rfl (htl _ mw_5) (htl _ mw_1043) hd_yX13_inDuel ⟨(Nat.le_of_ble_eq_true rfl), (Nat.le_of_ble_eq_true rfl)⟩, htl _ mw_1044, htl _ mw_1045⟩ rfl hl.1 rfl (Nat.le_of_ble_eq_true rfl) dX13_isDuel_2 ⟨(Nat.le_of_ble_eq_true rfl), (Nat.le_of_ble_eq_true rfl)⟩ (fun v1 H locs hpo hM hS => ?_)
  have hpo2 := hpo
  have hq_v1 := tk_rng v1
  refine lv_iconst (v := (-1)) hx hb dX13_isDuel_5 (by decide) ?_
  refine lv_icmp_eq (tgt := 13) hx hb dX13_isDuel_6 (by decide) (fun c9 => ?_) (fun c9 => ?_)
  · have hc4 : v1.toInt = (-1) := (fi_eq rfl (show ((-1) : Int32).toInt = (-1) by decide)).mp c9
    refine lv_iconst (v := 0) hx hb dX13_isDuel_13 (by decide) ?_
    have hk_0 : (0 : Int32).toInt = 0 := by decide
    exact mz_jret (v := 0) hx hb hr rfl hlocks ⟨(by omega), (by omega), (by omega), (by omega), (by omega), (by omega)⟩ hM hS dX13_isDuel_14
  · have hc4 : ¬ (v1.toInt = (-1)) := fun h9 => c9 ((fi_eq rfl (show ((-1) : Int32).toInt = (-1) by decide)).mpr h9)
    refine lv_iconst (v := 1) hx hb dX13_isDuel_9 (by decide) ?_
    refine lv_goto (tgt := 14) hx hb dX13_isDuel_10 (by decide) ?_
    have hk_1 : (1 : Int32).toInt = 1 := by decide
    exact mz_jret (v := 1) hx hb hr rfl hlocks ⟨(by omega), (by omega), (by omega), (by omega), (by omega), (by omega)⟩ hM hS dX13_isDuel_14
theorem dX13_endDuel_0 : decode cX13_endDuel 0 = .ok (.iconst 0, 1) := by decide +kernel
theorem dX13_endDuel_1 : decode cX13_endDuel 1 = .ok (.istore_n 1, 1) := by decide +kernel
theorem dX13_endDuel_2 : decode cX13_endDuel 2 = .ok (.iload_n 1, 1) := by decide +kernel
theorem dX13_endDuel_3 : decode cX13_endDuel 3 = .ok (.bipush 6, 2) := by decide +kernel
theorem dX13_endDuel_5 : decode cX13_endDuel 5 = .ok (.if_icmp .ge 19, 3) := by decide +kernel
theorem dX13_endDuel_8 : decode cX13_endDuel 8 = .ok (.aload_n 0, 1) := by decide +kernel
theorem dX13_endDuel_9 : decode cX13_endDuel 9 = .ok (.getfield 13, 3) := by decide +kernel
theorem dX13_endDuel_12 : decode cX13_endDuel 12 = .ok (.bipush 12, 2) := by decide +kernel
theorem dX13_endDuel_14 : decode cX13_endDuel 14 = .ok (.iload_n 1, 1) := by decide +kernel
theorem dX13_endDuel_15 : decode cX13_endDuel 15 = .ok (.iadd, 1) := by decide +kernel
theorem dX13_endDuel_16 : decode cX13_endDuel 16 = .ok (.iconst (-1), 1) := by decide +kernel
theorem dX13_endDuel_17 : decode cX13_endDuel 17 = .ok (.iastore, 1) := by decide +kernel
theorem dX13_endDuel_18 : decode cX13_endDuel 18 = .ok (.iinc 1 1, 3) := by decide +kernel
theorem dX13_endDuel_21 : decode cX13_endDuel 21 = .ok (.goto (-19), 3) := by decide +kernel
theorem dX13_endDuel_24 : decode cX13_endDuel 24 = .ok (.return_, 1) := by decide +kernel
set_option maxHeartbeats 4000000 in
set_option maxRecDepth 100000 in
theorem k_X13_endDuel (l : Launch) (D : va_G) (cy : Nat → ClassId) (ld ad : Nat → Nat) (am : Nat) (hD : mz_D ad am) (Fa : Nat → Int32) (Ga : Nat → Int64) (Ra : Nat → Nat → Int32) (Sa : Nat → Nat → Int64) (hIF : mz_IF true Fa) (hIG : mz_IG Ga) (hIR : mz_IR [] false Ra) : Met l yX13_endDuel (wl yX13_endDuel cX13_endDuel 2 none) ({ frames := 3, cells := 0, slots := 0, locals := 140 }) (mz_p D cy ld ad am Fa Ga Ra Sa [.ref am]) (mz_w D cy ad am (fun F G R S => mz_IF true F ∧ mz_IG G ∧ mz_IR [] true R ∧ (∀ k : Nat, k ∉ ([] : List Nat) → F k = Fa k) ∧ (∀ k : Nat, k ∉ ([3] : List Nat) → R k = Ra k) ∧ (∀ k : Nat, k ∉ ([] : List Nat) → G k = Ga k) ∧ rK2 (Ra 3) (R 3) ∧ R 3 12 = (-1) ∧ R 3 13 = (-1) ∧ R 3 14 = (-1) ∧ R 3 15 = (-1) ∧ R 3 16 = (-1))) 0 0 (mz_W ad am) := by
  refine mz_met (y := yX13_endDuel) (cc := cX13_endDuel) (maxL := 2) (ret := none) (av := [.ref am]) _ (by decide) (Nat.le_of_ble_eq_true rfl) ?_
  intro p e s m args below meth c hx hb hr hml hts htl hown hlocks hK H locs hM hS ls hl
  have hown : s.vm.findClass RX13 = some m.cls := hown
  have hl : lv_has ls 2 [(0, .ref am)] := hl
  refine lv_iconst (v := 0) hx hb dX13_endDuel_0 (by decide) ?_
  refine lv_istore_n (lv' := [(1, .int 0), (0, .ref am)]) hx hb dX13_endDuel_1 rfl hl (by decide) rfl (fun ls hl => ?_)
  refine lv_iload_n hx hb dX13_endDuel_2 rfl (lv_at hl 0 rfl) ?_
  refine lv_bipush (v := 6) hx hb dX13_endDuel_3 (by decide) ?_
  refine lv_icmp_ge (tgt := 24) hx hb dX13_endDuel_5 (by decide) (fun c9 => absurd c9 (by decide)) (fun _ => ?_)
  refine lv_aload_n hx hb dX13_endDuel_8 rfl (lv_at hl 1 rfl) ?_
  refine mz_getR hx hb htl hown hK hM 3 (Nat.le_of_ble_eq_true rfl) (Nat.le_of_ble_eq_true rfl) (htl _ mw_188) (fun _ h9 => h9) dX13_endDuel_9 ?_
  refine lv_bipush (v := 12) hx hb dX13_endDuel_12 (by decide) ?_
  refine lv_iload_n hx hb dX13_endDuel_14 rfl (lv_at hl 0 rfl) ?_
  refine lv_iadd hx hb dX13_endDuel_15 ?_
  refine fx_ti (v := 12) (by decide) ?_
  refine lv_iconst (v := (-1)) hx hb dX13_endDuel_16 (by decide) ?_
  have hk_12 : (12 : Int32).toInt = 12 := by decide
  have hk_m1 : ((-1) : Int32).toInt = (-1) := by decide
  refine mz_iast (x := (-1)) hx hb hK hD hM hS 3 (Nat.le_of_ble_eq_true rfl) rfl (nn := 5560) rfl (I := 12) (by decide) (by decide) (by decide) dX13_endDuel_17 (fun H locs R hM hS hw9 hj9 => ?_)
  have hIR := hIR.put hw9 hj9 (mz_r3 (hIR.at 3) (I := 12) (by decide) (by omega) (by omega) (fun h9 => by first | (cases h9; done) | omega) (by unfold mE; omega))
  have hRR := mz_frp (K := [3]) (Fa := Ra) hj9 (fun _ _ => rfl) (by decide)
  have hrel := rK2.put (I := 12) (rK2.refl rfl) hw9 (by decide) (by omega) (by omega) (by omega)
  have hf2 : R 3 12 = (-1) := (congrFun hw9 12).trans pk_us
  refine lv_iinc (v := 1) (lv' := [(1, .int 1), (0, .ref am)]) hx hb dX13_endDuel_18 hl (k := 0) rfl (by decide) (by decide) rfl (fun ls hl => ?_)
  refine lv_goto (tgt := 2) hx hb dX13_endDuel_21 (by decide) ?_
  refine lv_iload_n hx hb dX13_endDuel_2 rfl (lv_at hl 0 rfl) ?_
  refine lv_bipush (v := 6) hx hb dX13_endDuel_3 (by decide) ?_
  refine lv_icmp_ge (tgt := 24) hx hb dX13_endDuel_5 (by decide) (fun c9 => absurd c9 (by decide)) (fun _ => ?_)
  refine lv_aload_n hx hb dX13_endDuel_8 rfl (lv_at hl 1 rfl) ?_
  refine mz_getR hx hb htl hown hK hM 3 (Nat.le_of_ble_eq_true rfl) (Nat.le_of_ble_eq_true rfl) (htl _ mw_188) (fun _ h9 => h9) dX13_endDuel_9 ?_
  refine lv_bipush (v := 12) hx hb dX13_endDuel_12 (by decide) ?_
  refine lv_iload_n hx hb dX13_endDuel_14 rfl (lv_at hl 0 rfl) ?_
  refine lv_iadd hx hb dX13_endDuel_15 ?_
  refine fx_ti (v := 13) (by decide) ?_
  refine lv_iconst (v := (-1)) hx hb dX13_endDuel_16 (by decide) ?_
  have hk_13 : (13 : Int32).toInt = 13 := by decide
  have hk_m1 : ((-1) : Int32).toInt = (-1) := by decide
  refine mz_iast (x := (-1)) hx hb hK hD hM hS 3 (Nat.le_of_ble_eq_true rfl) rfl (nn := 5560) rfl (I := 13) (by decide) (by decide) (by decide) dX13_endDuel_17 (fun H locs R hM hS hw9 hj9 => ?_)
  have hIR := hIR.put hw9 hj9 (mz_r3 (hIR.at 3) (I := 13) (by decide) (by omega) (by omega) (fun h9 => by first | (cases h9; done) | omega) (by unfold mE; omega))
  have hRR := mz_frp (K := [3]) (Fa := Ra) hj9 hRR (by decide)
  have hrel := rK2.put (I := 13) hrel hw9 (by decide) (by omega) (by omega) (by omega)
  have hf2 : R 3 12 = _ := (congrFun hw9 12).trans ((pk_un (by decide)).trans hf2)
  have hf4 : R 3 13 = (-1) := (congrFun hw9 13).trans pk_us
  refine lv_iinc (v := 2) (lv' := [(1, .int 2), (0, .ref am)]) hx hb dX13_endDuel_18 hl (k := 0) rfl (by decide) (by decide) rfl (fun ls hl => ?_)
  refine lv_goto (tgt := 2) hx hb dX13_endDuel_21 (by decide) ?_
  refine lv_iload_n hx hb dX13_endDuel_2 rfl (lv_at hl 0 rfl) ?_
  refine lv_bipush (v := 6) hx hb dX13_endDuel_3 (by decide) ?_
  refine lv_icmp_ge (tgt := 24) hx hb dX13_endDuel_5 (by decide) (fun c9 => absurd c9 (by decide)) (fun _ => ?_)
  refine lv_aload_n hx hb dX13_endDuel_8 rfl (lv_at hl 1 rfl) ?_
  refine mz_getR hx hb htl hown hK hM 3 (Nat.le_of_ble_eq_true rfl) (Nat.le_of_ble_eq_true rfl) (htl _ mw_188) (fun _ h9 => h9) dX13_endDuel_9 ?_
  refine lv_bipush (v := 12) hx hb dX13_endDuel_12 (by decide) ?_
  refine lv_iload_n hx hb dX13_endDuel_14 rfl (lv_at hl 0 rfl) ?_
  refine lv_iadd hx hb dX13_endDuel_15 ?_
  refine fx_ti (v := 14) (by decide) ?_
  refine lv_iconst (v := (-1)) hx hb dX13_endDuel_16 (by decide) ?_
  have hk_14 : (14 : Int32).toInt = 14 := by decide
  have hk_m1 : ((-1) : Int32).toInt = (-1) := by decide
  refine mz_iast (x := (-1)) hx hb hK hD hM hS 3 (Nat.le_of_ble_eq_true rfl) rfl (nn := 5560) rfl (I := 14) (by decide) (by decide) (by decide) dX13_endDuel_17 (fun H locs R hM hS hw9 hj9 => ?_)
  have hIR := hIR.put hw9 hj9 (mz_r3 (hIR.at 3) (I := 14) (by decide) (by omega) (by omega) (fun h9 => by first | (cases h9; done) | omega) (by unfold mE; omega))
  have hRR := mz_frp (K := [3]) (Fa := Ra) hj9 hRR (by decide)
  have hrel := rK2.put (I := 14) hrel hw9 (by decide) (by omega) (by omega) (by omega)
  have hf2 : R 3 12 = _ := (congrFun hw9 12).trans ((pk_un (by decide)).trans hf2)
  have hf4 : R 3 13 = _ := (congrFun hw9 13).trans ((pk_un (by decide)).trans hf4)
  have hf6 : R 3 14 = (-1) := (congrFun hw9 14).trans pk_us
  refine lv_iinc (v := 3) (lv' := [(1, .int 3), (0, .ref am)]) hx hb dX13_endDuel_18 hl (k := 0) rfl (by decide) (by decide) rfl (fun ls hl => ?_)
  refine lv_goto (tgt := 2) hx hb dX13_endDuel_21 (by decide) ?_
  refine lv_iload_n hx hb dX13_endDuel_2 rfl (lv_at hl 0 rfl) ?_
  refine lv_bipush (v := 6) hx hb dX13_endDuel_3 (by decide) ?_
  refine lv_icmp_ge (tgt := 24) hx hb dX13_endDuel_5 (by decide) (fun c9 => absurd c9 (by decide)) (fun _ => ?_)
  refine lv_aload_n hx hb dX13_endDuel_8 rfl (lv_at hl 1 rfl) ?_
  refine mz_getR hx hb htl hown hK hM 3 (Nat.le_of_ble_eq_true rfl) (Nat.le_of_ble_eq_true rfl) (htl _ mw_188) (fun _ h9 => h9) dX13_endDuel_9 ?_
  refine lv_bipush (v := 12) hx hb dX13_endDuel_12 (by decide) ?_
  refine lv_iload_n hx hb dX13_endDuel_14 rfl (lv_at hl 0 rfl) ?_
  refine lv_iadd hx hb dX13_endDuel_15 ?_
  refine fx_ti (v := 15) (by decide) ?_
  refine lv_iconst (v := (-1)) hx hb dX13_endDuel_16 (by decide) ?_
  have hk_15 : (15 : Int32).toInt = 15 := by decide
  have hk_m1 : ((-1) : Int32).toInt = (-1) := by decide
  refine mz_iast (x := (-1)) hx hb hK hD hM hS 3 (Nat.le_of_ble_eq_true rfl) rfl (nn := 5560) rfl (I := 15) (by decide) (by decide) (by decide) dX13_endDuel_17 (fun H locs R hM hS hw9 hj9 => ?_)
  have hIR := hIR.put hw9 hj9 (mz_r3 (hIR.at 3) (I := 15) (by decide) (by omega) (by omega) (fun h9 => by first | (cases h9; done) | omega) (by unfold mE; omega))
  have hRR := mz_frp (K := [3]) (Fa := Ra) hj9 hRR (by decide)
  have hrel := rK2.put (I := 15) hrel hw9 (by decide) (by omega) (by omega) (by omega)
  have hf2 : R 3 12 = _ := (congrFun hw9 12).trans ((pk_un (by decide)).trans hf2)
  have hf4 : R 3 13 = _ := (congrFun hw9 13).trans ((pk_un (by decide)).trans hf4)
  have hf6 : R 3 14 = _ := (congrFun hw9 14).trans ((pk_un (by decide)).trans hf6)
  have hf8 : R 3 15 = (-1) := (congrFun hw9 15).trans pk_us
  refine lv_iinc (v := 4) (lv' := [(1, .int 4), (0, .ref am)]) hx hb dX13_endDuel_18 hl (k := 0) rfl (by decide) (by decide) rfl (fun ls hl => ?_)
  refine lv_goto (tgt := 2) hx hb dX13_endDuel_21 (by decide) ?_
  refine lv_iload_n hx hb dX13_endDuel_2 rfl (lv_at hl 0 rfl) ?_
  refine lv_bipush (v := 6) hx hb dX13_endDuel_3 (by decide) ?_
  refine lv_icmp_ge (tgt := 24) hx hb dX13_endDuel_5 (by decide) (fun c9 => absurd c9 (by decide)) (fun _ => ?_)
  refine lv_aload_n hx hb dX13_endDuel_8 rfl (lv_at hl 1 rfl) ?_
  refine mz_getR hx hb htl hown hK hM 3 (Nat.le_of_ble_eq_true rfl) (Nat.le_of_ble_eq_true rfl) (htl _ mw_188) (fun _ h9 => h9) dX13_endDuel_9 ?_
  refine lv_bipush (v := 12) hx hb dX13_endDuel_12 (by decide) ?_
  refine lv_iload_n hx hb dX13_endDuel_14 rfl (lv_at hl 0 rfl) ?_
  refine lv_iadd hx hb dX13_endDuel_15 ?_
  refine fx_ti (v := 16) (by decide) ?_
  refine lv_iconst (v := (-1)) hx hb dX13_endDuel_16 (by decide) ?_
  have hk_16 : (16 : Int32).toInt = 16 := by decide
  have hk_m1 : ((-1) : Int32).toInt = (-1) := by decide
  refine mz_iast (x := (-1)) hx hb hK hD hM hS 3 (Nat.le_of_ble_eq_true rfl) rfl (nn := 5560) rfl (I := 16) (by decide) (by decide) (by decide) dX13_endDuel_17 (fun H locs R hM hS hw9 hj9 => ?_)
  have hIR := hIR.put hw9 hj9 (mz_r3 (hIR.at 3) (I := 16) (by decide) (by omega) (by omega) (fun h9 => by first | (cases h9; done) | omega) (by unfold mE; omega))
  have hRR := mz_frp (K := [3]) (Fa := Ra) hj9 hRR (by decide)
  have hrel := rK2.put (I := 16) hrel hw9 (by decide) (by omega) (by omega) (by omega)
  have hf2 : R 3 12 = _ := (congrFun hw9 12).trans ((pk_un (by decide)).trans hf2)
  have hf4 : R 3 13 = _ := (congrFun hw9 13).trans ((pk_un (by decide)).trans hf4)
  have hf6 : R 3 14 = _ := (congrFun hw9 14).trans ((pk_un (by decide)).trans hf6)
  have hf8 : R 3 15 = _ := (congrFun hw9 15).trans ((pk_un (by decide)).trans hf8)
  have hf10 : R 3 16 = (-1) := (congrFun hw9 16).trans pk_us
  refine lv_iinc (v := 5) (lv' := [(1, .int 5), (0, .ref am)]) hx hb dX13_endDuel_18 hl (k := 0) rfl (by decide) (by decide) rfl (fun ls hl => ?_)
  refine lv_goto (tgt := 2) hx hb dX13_endDuel_21 (by decide) ?_
  refine lv_iload_n hx hb dX13_endDuel_2 rfl (lv_at hl 0 rfl) ?_
  refine lv_bipush (v := 6) hx hb dX13_endDuel_3 (by decide) ?_
  refine lv_icmp_ge (tgt := 24) hx hb dX13_endDuel_5 (by decide) (fun c9 => absurd c9 (by decide)) (fun _ => ?_)
  refine lv_aload_n hx hb dX13_endDuel_8 rfl (lv_at hl 1 rfl) ?_
  refine mz_getR hx hb htl hown hK hM 3 (Nat.le_of_ble_eq_true rfl) (Nat.le_of_ble_eq_true rfl) (htl _ mw_188) (fun _ h9 => h9) dX13_endDuel_9 ?_
  refine lv_bipush (v := 12) hx hb dX13_endDuel_12 (by decide) ?_
  refine lv_iload_n hx hb dX13_endDuel_14 rfl (lv_at hl 0 rfl) ?_
  refine lv_iadd hx hb dX13_endDuel_15 ?_
  refine fx_ti (v := 17) (by decide) ?_
  refine lv_iconst (v := (-1)) hx hb dX13_endDuel_16 (by decide) ?_
  have hk_17 : (17 : Int32).toInt = 17 := by decide
  have hk_m1 : ((-1) : Int32).toInt = (-1) := by decide
  refine mz_iast (x := (-1)) hx hb hK hD hM hS 3 (Nat.le_of_ble_eq_true rfl) rfl (nn := 5560) rfl (I := 17) (by decide) (by decide) (by decide) dX13_endDuel_17 (fun H locs R hM hS hw9 hj9 => ?_)
  have hIR := hIR.put hw9 hj9 (mz_r3 (hIR.at 3) (I := 17) (by decide) (by omega) (by omega) (fun h9 => by first | (cases h9; done) | omega) (by unfold mE; omega))
  have hRR := mz_frp (K := [3]) (Fa := Ra) hj9 hRR (by decide)
  have hrel := rK2.put (I := 17) hrel hw9 (by decide) (by omega) (by omega) (by omega)
  have hf2 : R 3 12 = _ := (congrFun hw9 12).trans ((pk_un (by decide)).trans hf2)
  have hf4 : R 3 13 = _ := (congrFun hw9 13).trans ((pk_un (by decide)).trans hf4)
  have hf6 : R 3 14 = _ := (congrFun hw9 14).trans ((pk_un (by decide)).trans hf6)
  have hf8 : R 3 15 = _ := (congrFun hw9 15).trans ((pk_un (by decide)).trans hf8)
  have hf10 : R 3 16 = _ := (congrFun hw9 16).trans ((pk_un (by decide)).trans hf10)
  have hf12 : R 3 17 = (-1) := (congrFun hw9 17).trans pk_us
  refine lv_iinc (v := 6) (lv' := [(1, .int 6), (0, .ref am)]) hx hb dX13_endDuel_18 hl (k := 0) rfl (by decide) (by decide) rfl (fun ls hl => ?_)
  refine lv_goto (tgt := 2) hx hb dX13_endDuel_21 (by decide) ?_
  refine lv_iload_n hx hb dX13_endDuel_2 rfl (lv_at hl 0 rfl) ?_
  refine lv_bipush (v := 6) hx hb dX13_endDuel_3 (by decide) ?_
  refine lv_icmp_ge (tgt := 24) hx hb dX13_endDuel_5 (by decide) (fun _ => ?_) (fun c9 => absurd (by decide) c9)
  have hk_m1 : ((-1) : Int32).toInt = (-1) := by decide
  have hk_m1 : ((-1) : Int32).toInt = (-1) := by decide
  have hk_m1 : ((-1) : Int32).toInt = (-1) := by decide
  have hk_m1 : ((-1) : Int32).toInt = (-1) := by decide
  have hk_m1 : ((-1) : Int32).toInt = (-1) := by decide
  have hIR := hIR.duel (by unfold dO; rw [hf2, show R 3 (12 + 1) = _ from hf4, show R 3 (12 + 2) = _ from hf6, show R 3 (12 + 3) = _ from hf8, show R 3 (12 + 4) = _ from hf10]; omega)
  exact mz_vret hx hb hr hlocks ⟨hIF, hIG, hIR, (fun _ _ => rfl), hRR, (fun _ _ => rfl), hrel, hf2, hf4, hf6, hf8, hf10⟩ hM hS dX13_endDuel_24
theorem dX13_ofSinger_0 : decode cX13_ofSinger 0 = .ok (.aload_n 0, 1) := by decide +kernel
theorem dX13_ofSinger_1 : decode cX13_ofSinger 1 = .ok (.getfield 13, 3) := by decide +kernel
theorem dX13_ofSinger_4 : decode cX13_ofSinger 4 = .ok (.bipush 18, 2) := by decide +kernel
theorem dX13_ofSinger_6 : decode cX13_ofSinger 6 = .ok (.iconst 5, 1) := by decide +kernel
theorem dX13_ofSinger_7 : decode cX13_ofSinger 7 = .ok (.iload_n 1, 1) := by decide +kernel
theorem dX13_ofSinger_8 : decode cX13_ofSinger 8 = .ok (.imul, 1) := by decide +kernel
theorem dX13_ofSinger_9 : decode cX13_ofSinger 9 = .ok (.iadd, 1) := by decide +kernel
theorem dX13_ofSinger_10 : decode cX13_ofSinger 10 = .ok (.iload_n 2, 1) := by decide +kernel
theorem dX13_ofSinger_11 : decode cX13_ofSinger 11 = .ok (.iadd, 1) := by decide +kernel
theorem dX13_ofSinger_12 : decode cX13_ofSinger 12 = .ok (.iaload, 1) := by decide +kernel
theorem dX13_ofSinger_13 : decode cX13_ofSinger 13 = .ok (.ireturn, 1) := by decide +kernel
set_option maxHeartbeats 4000000 in
set_option maxRecDepth 100000 in
theorem k_X13_ofSinger (l : Launch) (D : va_G) (cy : Nat → ClassId) (ld ad : Nat → Nat) (am : Nat) (hD : mz_D ad am) (Fa : Nat → Int32) (Ga : Nat → Int64) (Ra : Nat → Nat → Int32) (Sa : Nat → Nat → Int64) (p1 : Int32) (p2 : Int32) (hIF : mz_IF true Fa) (hIG : mz_IG Ga) (hIR : mz_IR [] true Ra) (hp_0 : (-1) ≤ p1.toInt) (hp_1 : p1.toInt ≤ 7) (hp_2 : 0 ≤ p2.toInt) (hp_3 : p2.toInt ≤ 4) : Met l yX13_ofSinger (wl yX13_ofSinger cX13_ofSinger 3 (some .int)) ({ frames := 3, cells := 0, slots := 0, locals := 140 }) (mz_p D cy ld ad am Fa Ga Ra Sa [.ref am, .int p1, .int p2]) (mz_j D cy ad am Fa Ga Ra Sa (fun r => True)) 0 0 (mz_W ad am) := by
  refine mz_met (y := yX13_ofSinger) (cc := cX13_ofSinger) (maxL := 3) (ret := (some .int)) (av := [.ref am, .int p1, .int p2]) _ (by decide) (Nat.le_of_ble_eq_true rfl) ?_
  intro p e s m args below meth c hx hb hr hml hts htl hown hlocks hK H locs hM hS ls hl
  have hown : s.vm.findClass RX13 = some m.cls := hown
  have hl : lv_has ls 3 [(0, .ref am), (1, .int p1), (2, .int p2)] := hl
  have hr_p1 := tk_rng p1
  have hr_p2 := tk_rng p2
  refine lv_aload_n hx hb dX13_ofSinger_0 rfl (lv_at hl 0 rfl) ?_
  refine mz_getR hx hb htl hown hK hM 3 (Nat.le_of_ble_eq_true rfl) (Nat.le_of_ble_eq_true rfl) (htl _ mw_188) (fun _ h9 => h9) dX13_ofSinger_1 ?_
  refine lv_bipush (v := 18) hx hb dX13_ofSinger_4 (by decide) ?_
  refine lv_iconst (v := 5) hx hb dX13_ofSinger_6 (by decide) ?_
  refine lv_iload_n hx hb dX13_ofSinger_7 rfl (lv_at hl 1 rfl) ?_
  refine lv_imul hx hb dX13_ofSinger_8 ?_
  refine tk_mul (show (5 : Int32).toInt = 5 by decide) rfl (by omega) (by omega) (fun v1 h_v1 => ?_)
  refine lv_iadd hx hb dX13_ofSinger_9 ?_
  refine tk_add (show (18 : Int32).toInt = 18 by decide) rfl (by omega) (by omega) (fun v2 h_v2 => ?_)
  refine lv_iload_n hx hb dX13_ofSinger_10 rfl (lv_at hl 2 rfl) ?_
  refine lv_iadd hx hb dX13_ofSinger_11 ?_
  refine tk_add rfl rfl (by omega) (by omega) (fun v3 h_v3 => ?_)
  refine mz_iald hx hb hK hM 3 (Nat.le_of_ble_eq_true rfl) rfl (nn := 5560) rfl rfl (by omega) (by omega) dX13_ofSinger_12 (fun v4 e_v4 => ?_)
  have hq_v4 := tk_rng v4
  exact mz_jret (v := v4) hx hb hr rfl hlocks trivial hM hS dX13_ofSinger_13
theorem dX13_setWake_0 : decode cX13_setWake 0 = .ok (.aload_n 0, 1) := by decide +kernel
theorem dX13_setWake_1 : decode cX13_setWake 1 = .ok (.getfield 13, 3) := by decide +kernel
theorem dX13_setWake_4 : decode cX13_setWake 4 = .ok (.bipush 18, 2) := by decide +kernel
theorem dX13_setWake_6 : decode cX13_setWake 6 = .ok (.iconst 5, 1) := by decide +kernel
theorem dX13_setWake_7 : decode cX13_setWake 7 = .ok (.iload_n 1, 1) := by decide +kernel
theorem dX13_setWake_8 : decode cX13_setWake 8 = .ok (.imul, 1) := by decide +kernel
theorem dX13_setWake_9 : decode cX13_setWake 9 = .ok (.iadd, 1) := by decide +kernel
theorem dX13_setWake_10 : decode cX13_setWake 10 = .ok (.iconst 0, 1) := by decide +kernel
theorem dX13_setWake_11 : decode cX13_setWake 11 = .ok (.iadd, 1) := by decide +kernel
theorem dX13_setWake_12 : decode cX13_setWake 12 = .ok (.iload_n 2, 1) := by decide +kernel
theorem dX13_setWake_13 : decode cX13_setWake 13 = .ok (.iastore, 1) := by decide +kernel
theorem dX13_setWake_14 : decode cX13_setWake 14 = .ok (.return_, 1) := by decide +kernel
set_option maxHeartbeats 4000000 in
set_option maxRecDepth 100000 in
theorem k_X13_setWake (l : Launch) (D : va_G) (cy : Nat → ClassId) (ld ad : Nat → Nat) (am : Nat) (hD : mz_D ad am) (Fa : Nat → Int32) (Ga : Nat → Int64) (Ra : Nat → Nat → Int32) (Sa : Nat → Nat → Int64) (p1 : Int32) (p2 : Int32) (hIF : mz_IF true Fa) (hIG : mz_IG Ga) (hIR : mz_IR [] true Ra) (hp_0 : 0 ≤ p1.toInt) (hp_1 : p1.toInt ≤ 7) : Met l yX13_setWake (wl yX13_setWake cX13_setWake 3 none) ({ frames := 3, cells := 0, slots := 0, locals := 140 }) (mz_p D cy ld ad am Fa Ga Ra Sa [.ref am, .int p1, .int p2]) (mz_w D cy ad am (fun F G R S => mz_IF true F ∧ mz_IG G ∧ mz_IR [] true R ∧ (∀ k : Nat, k ∉ ([] : List Nat) → F k = Fa k) ∧ (∀ k : Nat, k ∉ ([3] : List Nat) → R k = Ra k) ∧ (∀ k : Nat, k ∉ ([] : List Nat) → G k = Ga k) ∧ rK2 (Ra 3) (R 3))) 0 0 (mz_W ad am) := by
  refine mz_met (y := yX13_setWake) (cc := cX13_setWake) (maxL := 3) (ret := none) (av := [.ref am, .int p1, .int p2]) _ (by decide) (Nat.le_of_ble_eq_true rfl) ?_
  intro p e s m args below meth c hx hb hr hml hts htl hown hlocks hK H locs hM hS ls hl
  have hown : s.vm.findClass RX13 = some m.cls := hown
  have hl : lv_has ls 3 [(0, .ref am), (1, .int p1), (2, .int p2)] := hl
  have hr_p1 := tk_rng p1
  have hr_p2 := tk_rng p2
  refine lv_aload_n hx hb dX13_setWake_0 rfl (lv_at hl 0 rfl) ?_
  refine mz_getR hx hb htl hown hK hM 3 (Nat.le_of_ble_eq_true rfl) (Nat.le_of_ble_eq_true rfl) (htl _ mw_188) (fun _ h9 => h9) dX13_setWake_1 ?_
  refine lv_bipush (v := 18) hx hb dX13_setWake_4 (by decide) ?_
  refine lv_iconst (v := 5) hx hb dX13_setWake_6 (by decide) ?_
  refine lv_iload_n hx hb dX13_setWake_7 rfl (lv_at hl 1 rfl) ?_
  refine lv_imul hx hb dX13_setWake_8 ?_
  refine tk_mul (show (5 : Int32).toInt = 5 by decide) rfl (by omega) (by omega) (fun v1 h_v1 => ?_)
  refine lv_iadd hx hb dX13_setWake_9 ?_
  refine tk_add (show (18 : Int32).toInt = 18 by decide) rfl (by omega) (by omega) (fun v2 h_v2 => ?_)
  refine lv_iconst (v := 0) hx hb dX13_setWake_10 (by decide) ?_
  refine lv_iadd hx hb dX13_setWake_11 ?_
  refine tk_add rfl (show (0 : Int32).toInt = 0 by decide) (by omega) (by omega) (fun v3 h_v3 => ?_)
  refine lv_iload_n hx hb dX13_setWake_12 rfl (lv_at hl 2 rfl) ?_
  refine mz_iast (x := p2) hx hb hK hD hM hS 3 (Nat.le_of_ble_eq_true rfl) rfl (nn := 5560) rfl rfl (by omega) (by omega) dX13_setWake_13 (fun H locs R hM hS hw9 hj9 => ?_)
  have hIR := hIR.put hw9 hj9 (mz_r3 (hIR.at 3) (I := v3.toInt) rfl (by omega) (by omega) (fun h9 => by first | (cases h9; done) | omega) (by unfold mE; omega))
  have hRR := mz_frp (K := [3]) (Fa := Ra) hj9 (fun _ _ => rfl) (by decide)
  have hrel := rK2.put (I := v3.toInt) (rK2.refl rfl) hw9 rfl (by omega) (by omega) (by omega)
  exact mz_vret hx hb hr hlocks ⟨hIF, hIG, hIR, (fun _ _ => rfl), hRR, (fun _ _ => rfl), hrel⟩ hM hS dX13_setWake_14
theorem hd_yX13_in : yX13_in.cls ≠ "java/lang/invoke/MethodHandle" ∧ yX13_in.cls ≠ "java/lang/invoke/VarHandle" ∧ (parseMethodDescriptor yX13_in.desc).map (fun d => d.parameters.length) = some 3 := by decide +kernel
theorem dX13_isSinger_0 : decode cX13_isSinger 0 = .ok (.iload_n 1, 1) := by decide +kernel
theorem dX13_isSinger_1 : decode cX13_isSinger 1 = .ok (.i2l, 1) := by decide +kernel
theorem dX13_isSinger_2 : decode cX13_isSinger 2 = .ok (.lconst 0, 1) := by decide +kernel
theorem dX13_isSinger_3 : decode cX13_isSinger 3 = .ok (.aload_n 0, 1) := by decide +kernel
theorem dX13_isSinger_4 : decode cX13_isSinger 4 = .ok (.getfield 13, 3) := by decide +kernel
theorem dX13_isSinger_7 : decode cX13_isSinger 7 = .ok (.iconst 0, 1) := by decide +kernel
theorem dX13_isSinger_8 : decode cX13_isSinger 8 = .ok (.iaload, 1) := by decide +kernel
theorem dX13_isSinger_9 : decode cX13_isSinger 9 = .ok (.i2l, 1) := by decide +kernel
theorem dX13_isSinger_10 : decode cX13_isSinger 10 = .ok (.lconst 1, 1) := by decide +kernel
theorem dX13_isSinger_11 : decode cX13_isSinger 11 = .ok (.lsub, 1) := by decide +kernel
theorem dX13_isSinger_12 : decode cX13_isSinger 12 = .ok (.invokestatic 190, 3) := by decide +kernel
theorem dX13_isSinger_15 : decode cX13_isSinger 15 = .ok (.ireturn, 1) := by decide +kernel
set_option maxHeartbeats 4000000 in
set_option maxRecDepth 100000 in
theorem k_X13_isSinger (l : Launch) (D : va_G) (cy : Nat → ClassId) (ld ad : Nat → Nat) (am : Nat) (hD : mz_D ad am) (Fa : Nat → Int32) (Ga : Nat → Int64) (Ra : Nat → Nat → Int32) (Sa : Nat → Nat → Int64) (p1 : Int32) (hIF : mz_IF true Fa) (hIG : mz_IG Ga) (hIR : mz_IR [] true Ra) : Met l yX13_isSinger (wl yX13_isSinger cX13_isSinger 2 (some .boolean)) ({ frames := 4, cells := 0, slots := 0, locals := 210 }) (mz_p D cy ld ad am Fa Ga Ra Sa [.ref am, .int p1]) (mz_j D cy ad am Fa Ga Ra Sa (fun r => (1 ≤ r.toInt → 0 ≤ p1.toInt ∧ p1.toInt ≤ 7) ∧ 0 ≤ r.toInt ∧ r.toInt ≤ 1 ∧ 0 ≤ r.toInt ∧ r.toInt ≤ 1)) 0 0 (mz_W ad am) := by
  refine mz_met (y := yX13_isSinger) (cc := cX13_isSinger) (maxL := 2) (ret := (some .boolean)) (av := [.ref am, .int p1]) _ (by decide) (Nat.le_of_ble_eq_true rfl) ?_
  intro p e s m args below meth c hx hb hr hml hts htl hown hlocks hK H locs hM hS ls hl
  have hown : s.vm.findClass RX13 = some m.cls := hown
  have hl : lv_has ls 2 [(0, .ref am), (1, .int p1)] := hl
  have hr_p1 := tk_rng p1
  refine lv_iload_n hx hb dX13_isSinger_0 rfl (lv_at hl 1 rfl) ?_
  obtain ⟨w1, e_w1, h_w1⟩ : ∃ z : Int64, p1.toInt64 = z ∧ z.toInt = p1.toInt := ⟨_, rfl, fl_w _⟩
  refine lv_i2l (v := w1) hx hb dX13_isSinger_1 e_w1 ?_
  refine lv_lconst (v := 0) hx hb dX13_isSinger_2 (by decide) ?_
  refine lv_aload_n hx hb dX13_isSinger_3 rfl (lv_at hl 0 rfl) ?_
  refine mz_getR hx hb htl hown hK hM 3 (Nat.le_of_ble_eq_true rfl) (Nat.le_of_ble_eq_true rfl) (htl _ mw_188) (fun _ h9 => h9) dX13_isSinger_4 ?_
  refine lv_iconst (v := 0) hx hb dX13_isSinger_7 (by decide) ?_
  refine mz_iald hx hb hK hM 3 (Nat.le_of_ble_eq_true rfl) rfl (nn := 5560) rfl (I := 0) (by decide) (by decide) (by decide) dX13_isSinger_8 (fun v3 hf2 => ?_)
  have hf2 : Ra 3 0 = v3 := hf2
  have hq_v3 := tk_rng v3
  have hr_v3 : 0 ≤ v3.toInt ∧ v3.toInt ≤ 8 := by have h9 := mz_r3c 0 (hIR.at 3) hf2 (by decide); unfold mE at h9; omega
  obtain ⟨w4, e_w4, h_w4⟩ : ∃ z : Int64, v3.toInt64 = z ∧ z.toInt = v3.toInt := ⟨_, rfl, fl_w _⟩
  refine lv_i2l (v := w4) hx hb dX13_isSinger_9 e_w4 ?_
  refine lv_lconst (v := 1) hx hb dX13_isSinger_10 (by decide) ?_
  refine lv_lsub hx hb dX13_isSinger_11 ?_
  refine tk_lsub rfl (show (1 : Int64).toInt = 1 by decide) (by omega) (by omega) (fun w5 h_w5 => ?_)
  have hk_0 : (0 : Int64).toInt = 0 := by decide
  refine mz_Sj (As := [.long w1, .long 0, .long w5]) (rest := []) ⟨hx, hb, hml, hown, hts⟩ hK hM hS (k_X13_in l D cy ld ad am hD _ _ _ _ w1 0 w5) ⟨callB_of 3 hts (wl_in mw_292) rfl rfl rfl (htl _ mw_5) (htl _ mw_290) hd_yX13_in ⟨(Nat.le_of_ble_eq_true rfl), (Nat.le_of_ble_eq_true rfl)⟩, htl _ mw_291⟩ rfl hl.1 rfl (Nat.le_of_ble_eq_true rfl) dX13_isSinger_12 ⟨(Nat.le_of_ble_eq_true rfl), (Nat.le_of_ble_eq_true rfl)⟩ (fun v6 H locs hpo hM hS => ?_)
  obtain ⟨hpo7, hpo8, hpo9, hpo10, hpo11, hpo12⟩ := hpo
  have hq_v6 := tk_rng v6
  exact mz_jret (v := v6) hx hb hr (tk_nz (by omega) (by omega)) hlocks ⟨(by omega), (by omega), (by omega), (by omega), (by omega)⟩ hM hS dX13_isSinger_15
theorem dX13_isVerse_0 : decode cX13_isVerse 0 = .ok (.iload_n 1, 1) := by decide +kernel
theorem dX13_isVerse_1 : decode cX13_isVerse 1 = .ok (.i2l, 1) := by decide +kernel
theorem dX13_isVerse_2 : decode cX13_isVerse 2 = .ok (.lconst 0, 1) := by decide +kernel
theorem dX13_isVerse_3 : decode cX13_isVerse 3 = .ok (.aload_n 0, 1) := by decide +kernel
theorem dX13_isVerse_4 : decode cX13_isVerse 4 = .ok (.getfield 13, 3) := by decide +kernel
theorem dX13_isVerse_7 : decode cX13_isVerse 7 = .ok (.iconst 1, 1) := by decide +kernel
theorem dX13_isVerse_8 : decode cX13_isVerse 8 = .ok (.iaload, 1) := by decide +kernel
theorem dX13_isVerse_9 : decode cX13_isVerse 9 = .ok (.i2l, 1) := by decide +kernel
theorem dX13_isVerse_10 : decode cX13_isVerse 10 = .ok (.lconst 1, 1) := by decide +kernel
theorem dX13_isVerse_11 : decode cX13_isVerse 11 = .ok (.lsub, 1) := by decide +kernel
theorem dX13_isVerse_12 : decode cX13_isVerse 12 = .ok (.invokestatic 190, 3) := by decide +kernel
theorem dX13_isVerse_15 : decode cX13_isVerse 15 = .ok (.ireturn, 1) := by decide +kernel
set_option maxHeartbeats 4000000 in
set_option maxRecDepth 100000 in
theorem k_X13_isVerse (l : Launch) (D : va_G) (cy : Nat → ClassId) (ld ad : Nat → Nat) (am : Nat) (hD : mz_D ad am) (Fa : Nat → Int32) (Ga : Nat → Int64) (Ra : Nat → Nat → Int32) (Sa : Nat → Nat → Int64) (p1 : Int32) (hIF : mz_IF true Fa) (hIG : mz_IG Ga) (hIR : mz_IR [] true Ra) : Met l yX13_isVerse (wl yX13_isVerse cX13_isVerse 2 (some .boolean)) ({ frames := 4, cells := 0, slots := 0, locals := 210 }) (mz_p D cy ld ad am Fa Ga Ra Sa [.ref am, .int p1]) (mz_j D cy ad am Fa Ga Ra Sa (fun r => (1 ≤ r.toInt → 0 ≤ p1.toInt ∧ p1.toInt ≤ 9) ∧ 0 ≤ r.toInt ∧ r.toInt ≤ 1 ∧ 0 ≤ r.toInt ∧ r.toInt ≤ 1)) 0 0 (mz_W ad am) := by
  refine mz_met (y := yX13_isVerse) (cc := cX13_isVerse) (maxL := 2) (ret := (some .boolean)) (av := [.ref am, .int p1]) _ (by decide) (Nat.le_of_ble_eq_true rfl) ?_
  intro p e s m args below meth c hx hb hr hml hts htl hown hlocks hK H locs hM hS ls hl
  have hown : s.vm.findClass RX13 = some m.cls := hown
  have hl : lv_has ls 2 [(0, .ref am), (1, .int p1)] := hl
  have hr_p1 := tk_rng p1
  refine lv_iload_n hx hb dX13_isVerse_0 rfl (lv_at hl 1 rfl) ?_
  obtain ⟨w1, e_w1, h_w1⟩ : ∃ z : Int64, p1.toInt64 = z ∧ z.toInt = p1.toInt := ⟨_, rfl, fl_w _⟩
  refine lv_i2l (v := w1) hx hb dX13_isVerse_1 e_w1 ?_
  refine lv_lconst (v := 0) hx hb dX13_isVerse_2 (by decide) ?_
  refine lv_aload_n hx hb dX13_isVerse_3 rfl (lv_at hl 0 rfl) ?_
  refine mz_getR hx hb htl hown hK hM 3 (Nat.le_of_ble_eq_true rfl) (Nat.le_of_ble_eq_true rfl) (htl _ mw_188) (fun _ h9 => h9) dX13_isVerse_4 ?_
  refine lv_iconst (v := 1) hx hb dX13_isVerse_7 (by decide) ?_
  refine mz_iald hx hb hK hM 3 (Nat.le_of_ble_eq_true rfl) rfl (nn := 5560) rfl (I := 1) (by decide) (by decide) (by decide) dX13_isVerse_8 (fun v3 hf2 => ?_)
  have hf2 : Ra 3 1 = v3 := hf2
  have hq_v3 := tk_rng v3
  have hr_v3 : 0 ≤ v3.toInt ∧ v3.toInt ≤ 10 := by have h9 := mz_r3c 1 (hIR.at 3) hf2 (by decide); unfold mE at h9; omega
  obtain ⟨w4, e_w4, h_w4⟩ : ∃ z : Int64, v3.toInt64 = z ∧ z.toInt = v3.toInt := ⟨_, rfl, fl_w _⟩
  refine lv_i2l (v := w4) hx hb dX13_isVerse_9 e_w4 ?_
  refine lv_lconst (v := 1) hx hb dX13_isVerse_10 (by decide) ?_
  refine lv_lsub hx hb dX13_isVerse_11 ?_
  refine tk_lsub rfl (show (1 : Int64).toInt = 1 by decide) (by omega) (by omega) (fun w5 h_w5 => ?_)
  have hk_0 : (0 : Int64).toInt = 0 := by decide
  refine mz_Sj (As := [.long w1, .long 0, .long w5]) (rest := []) ⟨hx, hb, hml, hown, hts⟩ hK hM hS (k_X13_in l D cy ld ad am hD _ _ _ _ w1 0 w5) ⟨callB_of 3 hts (wl_in mw_292) rfl rfl rfl (htl _ mw_5) (htl _ mw_290) hd_yX13_in ⟨(Nat.le_of_ble_eq_true rfl), (Nat.le_of_ble_eq_true rfl)⟩, htl _ mw_291⟩ rfl hl.1 rfl (Nat.le_of_ble_eq_true rfl) dX13_isVerse_12 ⟨(Nat.le_of_ble_eq_true rfl), (Nat.le_of_ble_eq_true rfl)⟩ (fun v6 H locs hpo hM hS => ?_)
  obtain ⟨hpo7, hpo8, hpo9, hpo10, hpo11, hpo12⟩ := hpo
  have hq_v6 := tk_rng v6
  exact mz_jret (v := v6) hx hb hr (tk_nz (by omega) (by omega)) hlocks ⟨(by omega), (by omega), (by omega), (by omega), (by omega)⟩ hM hS dX13_isVerse_15
theorem hd_yX13_tell : yX13_tell.cls ≠ "java/lang/invoke/MethodHandle" ∧ yX13_tell.cls ≠ "java/lang/invoke/VarHandle" ∧ (parseMethodDescriptor yX13_tell.desc).map (fun d => d.parameters.length) = some 1 := by decide +kernel
theorem dX13_singer_0 : decode cX13_singer 0 = .ok (.aload_n 0, 1) := by decide +kernel
theorem dX13_singer_1 : decode cX13_singer 1 = .ok (.iconst 0, 1) := by decide +kernel
theorem dX13_singer_2 : decode cX13_singer 2 = .ok (.putfield 170, 3) := by decide +kernel
theorem dX13_singer_5 : decode cX13_singer 5 = .ok (.iload_n 1, 1) := by decide +kernel
theorem dX13_singer_6 : decode cX13_singer 6 = .ok (.i2l, 1) := by decide +kernel
theorem dX13_singer_7 : decode cX13_singer 7 = .ok (.lconst 0, 1) := by decide +kernel
theorem dX13_singer_8 : decode cX13_singer 8 = .ok (.ldc2_w 197, 3) := by decide +kernel
theorem dX13_singer_11 : decode cX13_singer 11 = .ok (.invokestatic 190, 3) := by decide +kernel
theorem dX13_singer_14 : decode cX13_singer 14 = .ok (.ifCond .eq 25, 3) := by decide +kernel
theorem dX13_singer_39 : decode cX13_singer 39 = .ok (.aload_n 0, 1) := by decide +kernel
theorem dX13_singer_40 : decode cX13_singer 40 = .ok (.iconst (-1), 1) := by decide +kernel
theorem dX13_singer_41 : decode cX13_singer 41 = .ok (.invokevirtual 183, 3) := by decide +kernel
theorem dX13_singer_44 : decode cX13_singer 44 = .ok (.ireturn, 1) := by decide +kernel
theorem dX13_singer_17 : decode cX13_singer 17 = .ok (.iload_n 2, 1) := by decide +kernel
theorem dX13_singer_18 : decode cX13_singer 18 = .ok (.i2l, 1) := by decide +kernel
theorem dX13_singer_19 : decode cX13_singer 19 = .ok (.lconst 0, 1) := by decide +kernel
theorem dX13_singer_20 : decode cX13_singer 20 = .ok (.ldc2_w 199, 3) := by decide +kernel
theorem dX13_singer_23 : decode cX13_singer 23 = .ok (.invokestatic 190, 3) := by decide +kernel
theorem dX13_singer_26 : decode cX13_singer 26 = .ok (.ifCond .eq 13, 3) := by decide +kernel
theorem dX13_singer_29 : decode cX13_singer 29 = .ok (.iload_n 3, 1) := by decide +kernel
theorem dX13_singer_30 : decode cX13_singer 30 = .ok (.i2l, 1) := by decide +kernel
theorem dX13_singer_31 : decode cX13_singer 31 = .ok (.lconst 0, 1) := by decide +kernel
theorem dX13_singer_32 : decode cX13_singer 32 = .ok (.lconst 1, 1) := by decide +kernel
theorem dX13_singer_33 : decode cX13_singer 33 = .ok (.invokestatic 190, 3) := by decide +kernel
theorem dX13_singer_36 : decode cX13_singer 36 = .ok (.ifCond .ne 9, 3) := by decide +kernel
theorem dX13_singer_45 : decode cX13_singer 45 = .ok (.aload_n 0, 1) := by decide +kernel
theorem dX13_singer_46 : decode cX13_singer 46 = .ok (.getfield 13, 3) := by decide +kernel
theorem dX13_singer_49 : decode cX13_singer 49 = .ok (.iconst 0, 1) := by decide +kernel
theorem dX13_singer_50 : decode cX13_singer 50 = .ok (.iaload, 1) := by decide +kernel
theorem dX13_singer_51 : decode cX13_singer 51 = .ok (.istore 4, 2) := by decide +kernel
theorem dX13_singer_53 : decode cX13_singer 53 = .ok (.iload 4, 2) := by decide +kernel
theorem dX13_singer_55 : decode cX13_singer 55 = .ok (.bipush 8, 2) := by decide +kernel
theorem dX13_singer_57 : decode cX13_singer 57 = .ok (.if_icmp .ne 10, 3) := by decide +kernel
theorem dX13_singer_67 : decode cX13_singer 67 = .ok (.bipush 18, 2) := by decide +kernel
theorem dX13_singer_69 : decode cX13_singer 69 = .ok (.iconst 5, 1) := by decide +kernel
theorem dX13_singer_70 : decode cX13_singer 70 = .ok (.iload 4, 2) := by decide +kernel
theorem dX13_singer_72 : decode cX13_singer 72 = .ok (.imul, 1) := by decide +kernel
theorem dX13_singer_73 : decode cX13_singer 73 = .ok (.iadd, 1) := by decide +kernel
theorem dX13_singer_74 : decode cX13_singer 74 = .ok (.istore 5, 2) := by decide +kernel
theorem dX13_singer_76 : decode cX13_singer 76 = .ok (.aload_n 0, 1) := by decide +kernel
theorem dX13_singer_77 : decode cX13_singer 77 = .ok (.getfield 13, 3) := by decide +kernel
theorem dX13_singer_80 : decode cX13_singer 80 = .ok (.iload 5, 2) := by decide +kernel
theorem dX13_singer_82 : decode cX13_singer 82 = .ok (.iload_n 1, 1) := by decide +kernel
theorem dX13_singer_83 : decode cX13_singer 83 = .ok (.iastore, 1) := by decide +kernel
theorem dX13_singer_84 : decode cX13_singer 84 = .ok (.aload_n 0, 1) := by decide +kernel
theorem dX13_singer_85 : decode cX13_singer 85 = .ok (.getfield 13, 3) := by decide +kernel
theorem dX13_singer_88 : decode cX13_singer 88 = .ok (.iload 5, 2) := by decide +kernel
theorem dX13_singer_90 : decode cX13_singer 90 = .ok (.iconst 1, 1) := by decide +kernel
theorem dX13_singer_91 : decode cX13_singer 91 = .ok (.iadd, 1) := by decide +kernel
theorem dX13_singer_92 : decode cX13_singer 92 = .ok (.iload_n 2, 1) := by decide +kernel
theorem dX13_singer_93 : decode cX13_singer 93 = .ok (.iastore, 1) := by decide +kernel
theorem dX13_singer_94 : decode cX13_singer 94 = .ok (.aload_n 0, 1) := by decide +kernel
theorem dX13_singer_95 : decode cX13_singer 95 = .ok (.getfield 13, 3) := by decide +kernel
theorem dX13_singer_98 : decode cX13_singer 98 = .ok (.iload 5, 2) := by decide +kernel
theorem dX13_singer_100 : decode cX13_singer 100 = .ok (.iconst 2, 1) := by decide +kernel
theorem dX13_singer_101 : decode cX13_singer 101 = .ok (.iadd, 1) := by decide +kernel
theorem dX13_singer_102 : decode cX13_singer 102 = .ok (.iload_n 3, 1) := by decide +kernel
theorem dX13_singer_103 : decode cX13_singer 103 = .ok (.iastore, 1) := by decide +kernel
theorem dX13_singer_104 : decode cX13_singer 104 = .ok (.aload_n 0, 1) := by decide +kernel
theorem dX13_singer_105 : decode cX13_singer 105 = .ok (.getfield 13, 3) := by decide +kernel
theorem dX13_singer_108 : decode cX13_singer 108 = .ok (.iload 5, 2) := by decide +kernel
theorem dX13_singer_110 : decode cX13_singer 110 = .ok (.iconst 3, 1) := by decide +kernel
theorem dX13_singer_111 : decode cX13_singer 111 = .ok (.iadd, 1) := by decide +kernel
theorem dX13_singer_112 : decode cX13_singer 112 = .ok (.iconst 0, 1) := by decide +kernel
theorem dX13_singer_113 : decode cX13_singer 113 = .ok (.iastore, 1) := by decide +kernel
theorem dX13_singer_114 : decode cX13_singer 114 = .ok (.aload_n 0, 1) := by decide +kernel
theorem dX13_singer_115 : decode cX13_singer 115 = .ok (.getfield 13, 3) := by decide +kernel
theorem dX13_singer_118 : decode cX13_singer 118 = .ok (.iload 5, 2) := by decide +kernel
theorem dX13_singer_120 : decode cX13_singer 120 = .ok (.iconst 4, 1) := by decide +kernel
theorem dX13_singer_121 : decode cX13_singer 121 = .ok (.iadd, 1) := by decide +kernel
theorem dX13_singer_122 : decode cX13_singer 122 = .ok (.iconst 0, 1) := by decide +kernel
theorem dX13_singer_123 : decode cX13_singer 123 = .ok (.iastore, 1) := by decide +kernel
theorem dX13_singer_124 : decode cX13_singer 124 = .ok (.aload_n 0, 1) := by decide +kernel
theorem dX13_singer_125 : decode cX13_singer 125 = .ok (.getfield 13, 3) := by decide +kernel
theorem dX13_singer_128 : decode cX13_singer 128 = .ok (.bipush 108, 2) := by decide +kernel
theorem dX13_singer_130 : decode cX13_singer 130 = .ok (.iload 4, 2) := by decide +kernel
theorem dX13_singer_132 : decode cX13_singer 132 = .ok (.iadd, 1) := by decide +kernel
theorem dX13_singer_133 : decode cX13_singer 133 = .ok (.iconst 0, 1) := by decide +kernel
theorem dX13_singer_134 : decode cX13_singer 134 = .ok (.iastore, 1) := by decide +kernel
theorem dX13_singer_135 : decode cX13_singer 135 = .ok (.aload_n 0, 1) := by decide +kernel
theorem dX13_singer_136 : decode cX13_singer 136 = .ok (.getfield 13, 3) := by decide +kernel
theorem dX13_singer_139 : decode cX13_singer 139 = .ok (.iconst 0, 1) := by decide +kernel
theorem dX13_singer_140 : decode cX13_singer 140 = .ok (.dup2, 1) := by decide +kernel
theorem dX13_singer_141 : decode cX13_singer 141 = .ok (.iaload, 1) := by decide +kernel
theorem dX13_singer_142 : decode cX13_singer 142 = .ok (.iconst 1, 1) := by decide +kernel
theorem dX13_singer_143 : decode cX13_singer 143 = .ok (.iadd, 1) := by decide +kernel
theorem dX13_singer_144 : decode cX13_singer 144 = .ok (.iastore, 1) := by decide +kernel
theorem dX13_singer_145 : decode cX13_singer 145 = .ok (.aload_n 0, 1) := by decide +kernel
theorem dX13_singer_146 : decode cX13_singer 146 = .ok (.iconst 0, 1) := by decide +kernel
theorem dX13_singer_147 : decode cX13_singer 147 = .ok (.putfield 176, 3) := by decide +kernel
theorem dX13_singer_150 : decode cX13_singer 150 = .ok (.aload_n 0, 1) := by decide +kernel
theorem dX13_singer_151 : decode cX13_singer 151 = .ok (.iload 4, 2) := by decide +kernel
theorem dX13_singer_153 : decode cX13_singer 153 = .ok (.invokevirtual 183, 3) := by decide +kernel
theorem dX13_singer_156 : decode cX13_singer 156 = .ok (.ireturn, 1) := by decide +kernel
theorem dX13_singer_60 : decode cX13_singer 60 = .ok (.aload_n 0, 1) := by decide +kernel
theorem dX13_singer_61 : decode cX13_singer 61 = .ok (.bipush (-5), 2) := by decide +kernel
theorem dX13_singer_63 : decode cX13_singer 63 = .ok (.invokevirtual 183, 3) := by decide +kernel
theorem dX13_singer_66 : decode cX13_singer 66 = .ok (.ireturn, 1) := by decide +kernel
set_option maxHeartbeats 4000000 in
set_option maxRecDepth 100000 in
theorem k_X13_singer (l : Launch) (D : va_G) (cy : Nat → ClassId) (ld ad : Nat → Nat) (am : Nat) (hD : mz_D ad am) (Fa : Nat → Int32) (Ga : Nat → Int64) (Ra : Nat → Nat → Int32) (Sa : Nat → Nat → Int64) (p1 : Int32) (p2 : Int32) (p3 : Int32) (hIF : mz_IF true Fa) (hIG : mz_IG Ga) (hIR : mz_IR [] true Ra) : Met l yX13_singer (wl yX13_singer cX13_singer 6 (some .int)) ({ frames := 4, cells := 0, slots := 0, locals := 210 }) (mz_p D cy ld ad am Fa Ga Ra Sa [.ref am, .int p1, .int p2, .int p3]) (mz_i D cy ad am (fun r F G R S => mz_IF true F ∧ mz_IG G ∧ mz_IR [] true R ∧ (∀ k : Nat, k ∉ ([0, 1, 8] : List Nat) → F k = Fa k) ∧ (∀ k : Nat, k ∉ ([2, 3] : List Nat) → R k = Ra k) ∧ (∀ k : Nat, k ∉ ([] : List Nat) → G k = Ga k) ∧ (-5) ≤ r.toInt ∧ r.toInt ≤ 7)) 0 0 (mz_W ad am) := by
  refine mz_met (y := yX13_singer) (cc := cX13_singer) (maxL := 6) (ret := (some .int)) (av := [.ref am, .int p1, .int p2, .int p3]) _ (by decide) (Nat.le_of_ble_eq_true rfl) ?_
  intro p e s m args below meth c hx hb hr hml hts htl hown hlocks hK H locs hM hS ls hl
  have hown : s.vm.findClass RX13 = some m.cls := hown
  have hl : lv_has ls 6 [(0, .ref am), (1, .int p1), (2, .int p2), (3, .int p3)] := hl
  have hr_p1 := tk_rng p1
  have hr_p2 := tk_rng p2
  have hr_p3 := tk_rng p3
  refine lv_aload_n hx hb dX13_singer_0 rfl (lv_at hl 0 rfl) ?_
  refine lv_iconst (v := 0) hx hb dX13_singer_1 (by decide) ?_
  have hk_0 : (0 : Int32).toInt = 0 := by decide
  refine mz_putI (ty := .int) (x := 0) hx hb htl hown hK hD hM hS 0 (Nat.le_of_ble_eq_true rfl) rfl (htl _ mw_286) (fun _ h9 => h9) rfl (tyX13_ok 0 (by decide)) rfl rfl dX13_singer_2 (fun H locs F hM hS hf9 hj9 => ?_)
  have hIF := hIF.put hf9 hj9 (tk_rng _).1 (tk_rng _).2 (by decide)
  have hFF := mz_frp (K := [0, 1, 8]) (Fa := Fa) hj9 (fun _ _ => rfl) (by decide)
  have hf2 := hf9
  refine lv_iload_n hx hb dX13_singer_5 rfl (lv_at hl 1 rfl) ?_
  obtain ⟨w3, e_w3, h_w3⟩ : ∃ z : Int64, p1.toInt64 = z ∧ z.toInt = p1.toInt := ⟨_, rfl, fl_w _⟩
  refine lv_i2l (v := w3) hx hb dX13_singer_6 e_w3 ?_
  refine lv_lconst (v := 0) hx hb dX13_singer_7 (by decide) ?_
  refine lv_ldc2 hx hb hown (htl _ mw_287) dX13_singer_8 ?_
  have hk_0 : (0 : Int64).toInt = 0 := by decide
  have hk_999 : (999 : Int64).toInt = 999 := by decide
  refine mz_Sj (As := [.long w3, .long 0, .long 999]) (rest := []) ⟨hx, hb, hml, hown, hts⟩ hK hM hS (k_X13_in l D cy ld ad am hD _ _ _ _ w3 0 999) ⟨callB_of 3 hts (wl_in mw_292) rfl rfl rfl (htl _ mw_5) (htl _ mw_290) hd_yX13_in ⟨(Nat.le_of_ble_eq_true rfl), (Nat.le_of_ble_eq_true rfl)⟩, htl _ mw_291⟩ rfl hl.1 rfl (Nat.le_of_ble_eq_true rfl) dX13_singer_11 ⟨(Nat.le_of_ble_eq_true rfl), (Nat.le_of_ble_eq_true rfl)⟩ (fun v4 H locs hpo hM hS => ?_)
  obtain ⟨hpo5, hpo6, hpo7, hpo8, hpo9, hpo10⟩ := hpo
  have hq_v4 := tk_rng v4
  refine lv_if_eq (tgt := 39) hx hb dX13_singer_14 (by decide) (fun c9 => ?_) (fun c9 => ?_)
  · have hc12 : v4.toInt = 0 := (fi_eq rfl (show (0 : Int32).toInt = 0 by decide)).mp c9
    refine lv_aload_n hx hb dX13_singer_39 rfl (lv_at hl 0 rfl) ?_
    refine lv_iconst (v := (-1)) hx hb dX13_singer_40 (by decide) ?_
    have hk_m1 : ((-1) : Int32).toInt = (-1) := by decide
    refine mz_Vi (As := [.int (-1)]) (rest := []) ⟨hx, hb, hml, hown, hts⟩ hK hM hS (k_X13_tell l D cy ld ad am hD _ _ _ _ (-1) hIF hIG hIR (by omega) (by omega)) ⟨callB_of 1 hts (wl_in mw_296) rfl rfl rfl (htl _ mw_5) (htl _ mw_293) hd_yX13_tell ⟨(Nat.le_of_ble_eq_true rfl), (Nat.le_of_ble_eq_true rfl)⟩, htl _ mw_294, htl _ mw_295⟩ rfl hl.1 rfl (Nat.le_of_ble_eq_true rfl) dX13_singer_41 ⟨(Nat.le_of_ble_eq_true rfl), (Nat.le_of_ble_eq_true rfl)⟩ (fun v13 H locs F G R S hpo hM hS => ?_)
    obtain ⟨hIF, hIG, hIR, hfr9, hrr9, hgr9, hpo14⟩ := hpo
    have hq_v13 := tk_rng v13
    have hFF := mz_fr (K := [0, 1, 8]) (Fa := Fa) hfr9 hFF (by decide)
    have hRR := mz_fr (K := [2, 3]) (Fa := Ra) hrr9 (fun _ _ => rfl) (by decide)
    have hGG := mz_fr (K := []) (Fa := Ga) hgr9 (fun _ _ => rfl) (by decide)
    have hf2 := (hfr9 0 (by decide)).trans hf2
    exact mz_iret (v := v13) hx hb hr rfl hlocks ⟨hIF, hIG, hIR, hFF, hRR, hGG, (by omega), (by omega)⟩ hM hS dX13_singer_44
  · have hc12 : ¬ (v4.toInt = 0) := fun h9 => c9 ((fi_eq rfl (show (0 : Int32).toInt = 0 by decide)).mpr h9)
    refine lv_iload_n hx hb dX13_singer_17 rfl (lv_at hl 2 rfl) ?_
    obtain ⟨w16, e_w16, h_w16⟩ : ∃ z : Int64, p2.toInt64 = z ∧ z.toInt = p2.toInt := ⟨_, rfl, fl_w _⟩
    refine lv_i2l (v := w16) hx hb dX13_singer_18 e_w16 ?_
    refine lv_lconst (v := 0) hx hb dX13_singer_19 (by decide) ?_
    refine lv_ldc2 hx hb hown (htl _ mw_288) dX13_singer_20 ?_
    have hk_0 : (0 : Int64).toInt = 0 := by decide
    have hk_9 : (9 : Int64).toInt = 9 := by decide
    refine mz_Sj (As := [.long w16, .long 0, .long 9]) (rest := []) ⟨hx, hb, hml, hown, hts⟩ hK hM hS (k_X13_in l D cy ld ad am hD _ _ _ _ w16 0 9) ⟨callB_of 3 hts (wl_in mw_292) rfl rfl rfl (htl _ mw_5) (htl _ mw_290) hd_yX13_in ⟨(Nat.le_of_ble_eq_true rfl), (Nat.le_of_ble_eq_true rfl)⟩, htl _ mw_291⟩ rfl hl.1 rfl (Nat.le_of_ble_eq_true rfl) dX13_singer_23 ⟨(Nat.le_of_ble_eq_true rfl), (Nat.le_of_ble_eq_true rfl)⟩ (fun v17 H locs hpo hM hS => ?_)
    obtain ⟨hpo18, hpo19, hpo20, hpo21, hpo22, hpo23⟩ := hpo
    have hq_v17 := tk_rng v17
    refine lv_if_eq (tgt := 39) hx hb dX13_singer_26 (by decide) (fun c9 => ?_) (fun c9 => ?_)
    · have hc25 : v17.toInt = 0 := (fi_eq rfl (show (0 : Int32).toInt = 0 by decide)).mp c9
      refine lv_aload_n hx hb dX13_singer_39 rfl (lv_at hl 0 rfl) ?_
      refine lv_iconst (v := (-1)) hx hb dX13_singer_40 (by decide) ?_
      have hk_m1 : ((-1) : Int32).toInt = (-1) := by decide
      refine mz_Vi (As := [.int (-1)]) (rest := []) ⟨hx, hb, hml, hown, hts⟩ hK hM hS (k_X13_tell l D cy ld ad am hD _ _ _ _ (-1) hIF hIG hIR (by omega) (by omega)) ⟨callB_of 1 hts (wl_in mw_296) rfl rfl rfl (htl _ mw_5) (htl _ mw_293) hd_yX13_tell ⟨(Nat.le_of_ble_eq_true rfl), (Nat.le_of_ble_eq_true rfl)⟩, htl _ mw_294, htl _ mw_295⟩ rfl hl.1 rfl (Nat.le_of_ble_eq_true rfl) dX13_singer_41 ⟨(Nat.le_of_ble_eq_true rfl), (Nat.le_of_ble_eq_true rfl)⟩ (fun v26 H locs F G R S hpo hM hS => ?_)
      obtain ⟨hIF, hIG, hIR, hfr9, hrr9, hgr9, hpo27⟩ := hpo
      have hq_v26 := tk_rng v26
      have hFF := mz_fr (K := [0, 1, 8]) (Fa := Fa) hfr9 hFF (by decide)
      have hRR := mz_fr (K := [2, 3]) (Fa := Ra) hrr9 (fun _ _ => rfl) (by decide)
      have hGG := mz_fr (K := []) (Fa := Ga) hgr9 (fun _ _ => rfl) (by decide)
      have hf2 := (hfr9 0 (by decide)).trans hf2
      exact mz_iret (v := v26) hx hb hr rfl hlocks ⟨hIF, hIG, hIR, hFF, hRR, hGG, (by omega), (by omega)⟩ hM hS dX13_singer_44
    · have hc25 : ¬ (v17.toInt = 0) := fun h9 => c9 ((fi_eq rfl (show (0 : Int32).toInt = 0 by decide)).mpr h9)
      refine lv_iload_n hx hb dX13_singer_29 rfl (lv_at hl 3 rfl) ?_
      obtain ⟨w29, e_w29, h_w29⟩ : ∃ z : Int64, p3.toInt64 = z ∧ z.toInt = p3.toInt := ⟨_, rfl, fl_w _⟩
      refine lv_i2l (v := w29) hx hb dX13_singer_30 e_w29 ?_
      refine lv_lconst (v := 0) hx hb dX13_singer_31 (by decide) ?_
      refine lv_lconst (v := 1) hx hb dX13_singer_32 (by decide) ?_
      have hk_0 : (0 : Int64).toInt = 0 := by decide
      have hk_1 : (1 : Int64).toInt = 1 := by decide
      refine mz_Sj (As := [.long w29, .long 0, .long 1]) (rest := []) ⟨hx, hb, hml, hown, hts⟩ hK hM hS (k_X13_in l D cy ld ad am hD _ _ _ _ w29 0 1) ⟨callB_of 3 hts (wl_in mw_292) rfl rfl rfl (htl _ mw_5) (htl _ mw_290) hd_yX13_in ⟨(Nat.le_of_ble_eq_true rfl), (Nat.le_of_ble_eq_true rfl)⟩, htl _ mw_291⟩ rfl hl.1 rfl (Nat.le_of_ble_eq_true rfl) dX13_singer_33 ⟨(Nat.le_of_ble_eq_true rfl), (Nat.le_of_ble_eq_true rfl)⟩ (fun v30 H locs hpo hM hS => ?_)
      obtain ⟨hpo31, hpo32, hpo33, hpo34, hpo35, hpo36⟩ := hpo
      have hq_v30 := tk_rng v30
      refine lv_if_ne (tgt := 45) hx hb dX13_singer_36 (by decide) (fun c9 => ?_) (fun c9 => ?_)
      · have hc38 : ¬ (v30.toInt = 0) := fun h9 => c9 ((fi_eq rfl (show (0 : Int32).toInt = 0 by decide)).mpr h9)
        refine lv_aload_n hx hb dX13_singer_45 rfl (lv_at hl 0 rfl) ?_
        refine mz_getR hx hb htl hown hK hM 3 (Nat.le_of_ble_eq_true rfl) (Nat.le_of_ble_eq_true rfl) (htl _ mw_188) (fun _ h9 => h9) dX13_singer_46 ?_
        refine lv_iconst (v := 0) hx hb dX13_singer_49 (by decide) ?_
        refine mz_iald hx hb hK hM 3 (Nat.le_of_ble_eq_true rfl) rfl (nn := 5560) rfl (I := 0) (by decide) (by decide) (by decide) dX13_singer_50 (fun v40 hf39 => ?_)
        have hf39 : Ra 3 0 = v40 := hf39
        have hq_v40 := tk_rng v40
        have hr_v40 : 0 ≤ v40.toInt ∧ v40.toInt ≤ 8 := by have h9 := mz_r3c 0 (hIR.at 3) hf39 (by decide); unfold mE at h9; omega
        refine lv_istore (lv' := [(4, .int v40), (0, .ref am), (1, .int p1), (2, .int p2), (3, .int p3)]) hx hb dX13_singer_51 hl (by decide) rfl (fun ls hl => ?_)
        refine lv_iload hx hb dX13_singer_53 (lv_at hl 0 rfl) ?_
        refine lv_bipush (v := 8) hx hb dX13_singer_55 (by decide) ?_
        refine lv_icmp_ne (tgt := 67) hx hb dX13_singer_57 (by decide) (fun c9 => ?_) (fun c9 => ?_)
        · have hc41 : ¬ (v40.toInt = 8) := fun h9 => c9 ((fi_eq rfl (show (8 : Int32).toInt = 8 by decide)).mpr h9)
          refine lv_bipush (v := 18) hx hb dX13_singer_67 (by decide) ?_
          refine lv_iconst (v := 5) hx hb dX13_singer_69 (by decide) ?_
          refine lv_iload hx hb dX13_singer_70 (lv_at hl 0 rfl) ?_
          refine lv_imul hx hb dX13_singer_72 ?_
          refine tk_mul (show (5 : Int32).toInt = 5 by decide) rfl (by omega) (by omega) (fun v42 h_v42 => ?_)
          refine lv_iadd hx hb dX13_singer_73 ?_
          refine tk_add (show (18 : Int32).toInt = 18 by decide) rfl (by omega) (by omega) (fun v43 h_v43 => ?_)
          refine lv_istore (lv' := [(5, .int v43), (4, .int v40), (0, .ref am), (1, .int p1), (2, .int p2), (3, .int p3)]) hx hb dX13_singer_74 hl (by decide) rfl (fun ls hl => ?_)
          refine lv_aload_n hx hb dX13_singer_76 rfl (lv_at hl 2 rfl) ?_
          refine mz_getR hx hb htl hown hK hM 3 (Nat.le_of_ble_eq_true rfl) (Nat.le_of_ble_eq_true rfl) (htl _ mw_188) (fun _ h9 => h9) dX13_singer_77 ?_
          refine lv_iload hx hb dX13_singer_80 (lv_at hl 0 rfl) ?_
          refine lv_iload_n hx hb dX13_singer_82 rfl (lv_at hl 3 rfl) ?_
          refine mz_iast (x := p1) hx hb hK hD hM hS 3 (Nat.le_of_ble_eq_true rfl) rfl (nn := 5560) rfl rfl (by omega) (by omega) dX13_singer_83 (fun H locs R hM hS hw9 hj9 => ?_)
          have hIR := hIR.put hw9 hj9 (mz_r3 (hIR.at 3) (I := v43.toInt) rfl (by omega) (by omega) (fun h9 => by first | (cases h9; done) | omega) (by unfold mE; omega))
          have hRR := mz_frp (K := [2, 3]) (Fa := Ra) hj9 (fun _ _ => rfl) (by decide)
          have hf39 : R 3 0 = _ := (congrFun hw9 0).trans ((pk_un (fun h9 => by have h8 := tk_nat (i := v43) rfl (by omega); omega)).trans hf39)
          refine lv_aload_n hx hb dX13_singer_84 rfl (lv_at hl 2 rfl) ?_
          refine mz_getR hx hb htl hown hK hM 3 (Nat.le_of_ble_eq_true rfl) (Nat.le_of_ble_eq_true rfl) (htl _ mw_188) (fun _ h9 => h9) dX13_singer_85 ?_
          refine lv_iload hx hb dX13_singer_88 (lv_at hl 0 rfl) ?_
          refine lv_iconst (v := 1) hx hb dX13_singer_90 (by decide) ?_
          refine lv_iadd hx hb dX13_singer_91 ?_
          refine tk_add rfl (show (1 : Int32).toInt = 1 by decide) (by omega) (by omega) (fun v45 h_v45 => ?_)
          refine lv_iload_n hx hb dX13_singer_92 rfl (lv_at hl 4 rfl) ?_
          refine mz_iast (x := p2) hx hb hK hD hM hS 3 (Nat.le_of_ble_eq_true rfl) rfl (nn := 5560) rfl rfl (by omega) (by omega) dX13_singer_93 (fun H locs R hM hS hw9 hj9 => ?_)
          have hIR := hIR.put hw9 hj9 (mz_r3 (hIR.at 3) (I := v45.toInt) rfl (by omega) (by omega) (fun h9 => by first | (cases h9; done) | omega) (by unfold mE; omega))
          have hRR := mz_frp (K := [2, 3]) (Fa := Ra) hj9 hRR (by decide)
          have hf39 : R 3 0 = _ := (congrFun hw9 0).trans ((pk_un (fun h9 => by have h8 := tk_nat (i := v45) rfl (by omega); omega)).trans hf39)
          refine lv_aload_n hx hb dX13_singer_94 rfl (lv_at hl 2 rfl) ?_
          refine mz_getR hx hb htl hown hK hM 3 (Nat.le_of_ble_eq_true rfl) (Nat.le_of_ble_eq_true rfl) (htl _ mw_188) (fun _ h9 => h9) dX13_singer_95 ?_
          refine lv_iload hx hb dX13_singer_98 (lv_at hl 0 rfl) ?_
          refine lv_iconst (v := 2) hx hb dX13_singer_100 (by decide) ?_
          refine lv_iadd hx hb dX13_singer_101 ?_
          refine tk_add rfl (show (2 : Int32).toInt = 2 by decide) (by omega) (by omega) (fun v47 h_v47 => ?_)
          refine lv_iload_n hx hb dX13_singer_102 rfl (lv_at hl 5 rfl) ?_
          refine mz_iast (x := p3) hx hb hK hD hM hS 3 (Nat.le_of_ble_eq_true rfl) rfl (nn := 5560) rfl rfl (by omega) (by omega) dX13_singer_103 (fun H locs R hM hS hw9 hj9 => ?_)
          have hIR := hIR.put hw9 hj9 (mz_r3 (hIR.at 3) (I := v47.toInt) rfl (by omega) (by omega) (fun h9 => by first | (cases h9; done) | omega) (by unfold mE; omega))
          have hRR := mz_frp (K := [2, 3]) (Fa := Ra) hj9 hRR (by decide)
          have hf39 : R 3 0 = _ := (congrFun hw9 0).trans ((pk_un (fun h9 => by have h8 := tk_nat (i := v47) rfl (by omega); omega)).trans hf39)
          refine lv_aload_n hx hb dX13_singer_104 rfl (lv_at hl 2 rfl) ?_
          refine mz_getR hx hb htl hown hK hM 3 (Nat.le_of_ble_eq_true rfl) (Nat.le_of_ble_eq_true rfl) (htl _ mw_188) (fun _ h9 => h9) dX13_singer_105 ?_
          refine lv_iload hx hb dX13_singer_108 (lv_at hl 0 rfl) ?_
          refine lv_iconst (v := 3) hx hb dX13_singer_110 (by decide) ?_
          refine lv_iadd hx hb dX13_singer_111 ?_
          refine tk_add rfl (show (3 : Int32).toInt = 3 by decide) (by omega) (by omega) (fun v49 h_v49 => ?_)
          refine lv_iconst (v := 0) hx hb dX13_singer_112 (by decide) ?_
          have hk_0 : (0 : Int32).toInt = 0 := by decide
          refine mz_iast (x := 0) hx hb hK hD hM hS 3 (Nat.le_of_ble_eq_true rfl) rfl (nn := 5560) rfl rfl (by omega) (by omega) dX13_singer_113 (fun H locs R hM hS hw9 hj9 => ?_)
          have hIR := hIR.put hw9 hj9 (mz_r3 (hIR.at 3) (I := v49.toInt) rfl (by omega) (by omega) (fun h9 => by first | (cases h9; done) | omega) (by unfold mE; omega))
          have hRR := mz_frp (K := [2, 3]) (Fa := Ra) hj9 hRR (by decide)
          have hf39 : R 3 0 = _ := (congrFun hw9 0).trans ((pk_un (fun h9 => by have h8 := tk_nat (i := v49) rfl (by omega); omega)).trans hf39)
          refine lv_aload_n hx hb dX13_singer_114 rfl (lv_at hl 2 rfl) ?_
          refine mz_getR hx hb htl hown hK hM 3 (Nat.le_of_ble_eq_true rfl) (Nat.le_of_ble_eq_true rfl) (htl _ mw_188) (fun _ h9 => h9) dX13_singer_115 ?_
          refine lv_iload hx hb dX13_singer_118 (lv_at hl 0 rfl) ?_
          refine lv_iconst (v := 4) hx hb dX13_singer_120 (by decide) ?_
          refine lv_iadd hx hb dX13_singer_121 ?_
          refine tk_add rfl (show (4 : Int32).toInt = 4 by decide) (by omega) (by omega) (fun v51 h_v51 => ?_)
          refine lv_iconst (v := 0) hx hb dX13_singer_122 (by decide) ?_
          have hk_0 : (0 : Int32).toInt = 0 := by decide
          refine mz_iast (x := 0) hx hb hK hD hM hS 3 (Nat.le_of_ble_eq_true rfl) rfl (nn := 5560) rfl rfl (by omega) (by omega) dX13_singer_123 (fun H locs R hM hS hw9 hj9 => ?_)
          have hIR := hIR.put hw9 hj9 (mz_r3 (hIR.at 3) (I := v51.toInt) rfl (by omega) (by omega) (fun h9 => by first | (cases h9; done) | omega) (by unfold mE; omega))
          have hRR := mz_frp (K := [2, 3]) (Fa := Ra) hj9 hRR (by decide)
          have hf39 : R 3 0 = _ := (congrFun hw9 0).trans ((pk_un (fun h9 => by have h8 := tk_nat (i := v51) rfl (by omega); omega)).trans hf39)
          refine lv_aload_n hx hb dX13_singer_124 rfl (lv_at hl 2 rfl) ?_
          refine mz_getR hx hb htl hown hK hM 3 (Nat.le_of_ble_eq_true rfl) (Nat.le_of_ble_eq_true rfl) (htl _ mw_188) (fun _ h9 => h9) dX13_singer_125 ?_
          refine lv_bipush (v := 108) hx hb dX13_singer_128 (by decide) ?_
          refine lv_iload hx hb dX13_singer_130 (lv_at hl 1 rfl) ?_
          refine lv_iadd hx hb dX13_singer_132 ?_
          refine tk_add (show (108 : Int32).toInt = 108 by decide) rfl (by omega) (by omega) (fun v53 h_v53 => ?_)
          refine lv_iconst (v := 0) hx hb dX13_singer_133 (by decide) ?_
          have hk_0 : (0 : Int32).toInt = 0 := by decide
          refine mz_iast (x := 0) hx hb hK hD hM hS 3 (Nat.le_of_ble_eq_true rfl) rfl (nn := 5560) rfl rfl (by omega) (by omega) dX13_singer_134 (fun H locs R hM hS hw9 hj9 => ?_)
          have hIR := hIR.put hw9 hj9 (mz_r3 (hIR.at 3) (I := v53.toInt) rfl (by omega) (by omega) (fun h9 => by first | (cases h9; done) | omega) (by unfold mE; omega))
          have hRR := mz_frp (K := [2, 3]) (Fa := Ra) hj9 hRR (by decide)
          have hf39 : R 3 0 = _ := (congrFun hw9 0).trans ((pk_un (fun h9 => by have h8 := tk_nat (i := v53) rfl (by omega); omega)).trans hf39)
          refine lv_aload_n hx hb dX13_singer_135 rfl (lv_at hl 2 rfl) ?_
          refine mz_getR hx hb htl hown hK hM 3 (Nat.le_of_ble_eq_true rfl) (Nat.le_of_ble_eq_true rfl) (htl _ mw_188) (fun _ h9 => h9) dX13_singer_136 ?_
          refine lv_iconst (v := 0) hx hb dX13_singer_139 (by decide) ?_
          refine lv_dup2_11 hx hb dX13_singer_140 rfl rfl ?_
          refine mz_iald hx hb hK hM 3 (Nat.le_of_ble_eq_true rfl) rfl (nn := 5560) rfl (I := 0) (by decide) (by decide) (by decide) dX13_singer_141 (fun v9 e9 => ?_)
          refine fx_ti (v := v40) (e9.symm.trans (show R 3 (0 : Int32).toNatClampNeg = _ from hf39)) ?_
          refine lv_iconst (v := 1) hx hb dX13_singer_142 (by decide) ?_
          refine lv_iadd hx hb dX13_singer_143 ?_
          refine tk_add rfl (show (1 : Int32).toInt = 1 by decide) (by omega) (by omega) (fun v55 h_v55 => ?_)
          have hk_0 : (0 : Int32).toInt = 0 := by decide
          refine mz_iast (x := v55) hx hb hK hD hM hS 3 (Nat.le_of_ble_eq_true rfl) rfl (nn := 5560) rfl (I := 0) (by decide) (by decide) (by decide) dX13_singer_144 (fun H locs R hM hS hw9 hj9 => ?_)
          have hIR := hIR.put hw9 hj9 (mz_r3 (hIR.at 3) (I := 0) (by decide) (by omega) (by omega) (fun h9 => by first | (cases h9; done) | omega) (by unfold mE; omega))
          have hRR := mz_frp (K := [2, 3]) (Fa := Ra) hj9 hRR (by decide)
          have hf57 : R 3 0 = v55 := (congrFun hw9 0).trans pk_us
          refine lv_aload_n hx hb dX13_singer_145 rfl (lv_at hl 2 rfl) ?_
          refine lv_iconst (v := 0) hx hb dX13_singer_146 (by decide) ?_
          have hk_0 : (0 : Int32).toInt = 0 := by decide
          have hk_0 : (0 : Int32).toInt = 0 := by decide
          refine mz_putI (ty := .int) (x := 0) hx hb htl hown hK hD hM hS 8 (Nat.le_of_ble_eq_true rfl) rfl (htl _ mw_289) (fun _ h9 => h9) rfl (tyX13_ok 8 (by decide)) rfl rfl dX13_singer_147 (fun H locs F hM hS hf9 hj9 => ?_)
          have hIF := hIF.put hf9 hj9 (show 0 ≤ (0 : Int32).toInt by omega) (show (0 : Int32).toInt ≤ 16 by omega) (by decide)
          have hFF := mz_frp (K := [0, 1, 8]) (Fa := Fa) hj9 hFF (by decide)
          have hf2 := (hj9 0 (by decide)).trans hf2
          have hf59 := hf9
          refine lv_aload_n hx hb dX13_singer_150 rfl (lv_at hl 2 rfl) ?_
          refine lv_iload hx hb dX13_singer_151 (lv_at hl 1 rfl) ?_
          refine mz_Vi (As := [.int v40]) (rest := []) ⟨hx, hb, hml, hown, hts⟩ hK hM hS (k_X13_tell l D cy ld ad am hD _ _ _ _ v40 hIF hIG hIR (by omega) (by omega)) ⟨callB_of 1 hts (wl_in mw_296) rfl rfl rfl (htl _ mw_5) (htl _ mw_293) hd_yX13_tell ⟨(Nat.le_of_ble_eq_true rfl), (Nat.le_of_ble_eq_true rfl)⟩, htl _ mw_294, htl _ mw_295⟩ rfl hl.1 rfl (Nat.le_of_ble_eq_true rfl) dX13_singer_153 ⟨(Nat.le_of_ble_eq_true rfl), (Nat.le_of_ble_eq_true rfl)⟩ (fun v60 H locs F G R S hpo hM hS => ?_)
          obtain ⟨hIF, hIG, hIR, hfr9, hrr9, hgr9, hpo61⟩ := hpo
          have hq_v60 := tk_rng v60
          have hFF := mz_fr (K := [0, 1, 8]) (Fa := Fa) hfr9 hFF (by decide)
          have hRR := mz_fr (K := [2, 3]) (Fa := Ra) hrr9 hRR (by decide)
          have hGG := mz_fr (K := []) (Fa := Ga) hgr9 (fun _ _ => rfl) (by decide)
          have hf2 := (hfr9 0 (by decide)).trans hf2
          have hf57 : R 3 0 = _ := (congrFun (hrr9 3 (by decide)) 0).trans hf57
          have hf59 := (hfr9 8 (by decide)).trans hf59
          exact mz_iret (v := v60) hx hb hr rfl hlocks ⟨hIF, hIG, hIR, hFF, hRR, hGG, (by omega), (by omega)⟩ hM hS dX13_singer_156
        · have hc41 : v40.toInt = 8 := (fi_eq rfl (show (8 : Int32).toInt = 8 by decide)).mp c9
          refine lv_aload_n hx hb dX13_singer_60 rfl (lv_at hl 1 rfl) ?_
          refine lv_bipush (v := (-5)) hx hb dX13_singer_61 (by decide) ?_
          have hk_m5 : ((-5) : Int32).toInt = (-5) := by decide
          refine mz_Vi (As := [.int (-5)]) (rest := []) ⟨hx, hb, hml, hown, hts⟩ hK hM hS (k_X13_tell l D cy ld ad am hD _ _ _ _ (-5) hIF hIG hIR (by omega) (by omega)) ⟨callB_of 1 hts (wl_in mw_296) rfl rfl rfl (htl _ mw_5) (htl _ mw_293) hd_yX13_tell ⟨(Nat.le_of_ble_eq_true rfl), (Nat.le_of_ble_eq_true rfl)⟩, htl _ mw_294, htl _ mw_295⟩ rfl hl.1 rfl (Nat.le_of_ble_eq_true rfl) dX13_singer_63 ⟨(Nat.le_of_ble_eq_true rfl), (Nat.le_of_ble_eq_true rfl)⟩ (fun v63 H locs F G R S hpo hM hS => ?_)
          obtain ⟨hIF, hIG, hIR, hfr9, hrr9, hgr9, hpo64⟩ := hpo
          have hq_v63 := tk_rng v63
          have hFF := mz_fr (K := [0, 1, 8]) (Fa := Fa) hfr9 hFF (by decide)
          have hRR := mz_fr (K := [2, 3]) (Fa := Ra) hrr9 (fun _ _ => rfl) (by decide)
          have hGG := mz_fr (K := []) (Fa := Ga) hgr9 (fun _ _ => rfl) (by decide)
          have hf2 := (hfr9 0 (by decide)).trans hf2
          have hf39 : R 3 0 = _ := (congrFun (hrr9 3 (by decide)) 0).trans hf39
          exact mz_iret (v := v63) hx hb hr rfl hlocks ⟨hIF, hIG, hIR, hFF, hRR, hGG, (by omega), (by omega)⟩ hM hS dX13_singer_66
      · have hc38 : v30.toInt = 0 := (fi_eq rfl (show (0 : Int32).toInt = 0 by decide)).mp c9
        refine lv_aload_n hx hb dX13_singer_39 rfl (lv_at hl 0 rfl) ?_
        refine lv_iconst (v := (-1)) hx hb dX13_singer_40 (by decide) ?_
        have hk_m1 : ((-1) : Int32).toInt = (-1) := by decide
        refine mz_Vi (As := [.int (-1)]) (rest := []) ⟨hx, hb, hml, hown, hts⟩ hK hM hS (k_X13_tell l D cy ld ad am hD _ _ _ _ (-1) hIF hIG hIR (by omega) (by omega)) ⟨callB_of 1 hts (wl_in mw_296) rfl rfl rfl (htl _ mw_5) (htl _ mw_293) hd_yX13_tell ⟨(Nat.le_of_ble_eq_true rfl), (Nat.le_of_ble_eq_true rfl)⟩, htl _ mw_294, htl _ mw_295⟩ rfl hl.1 rfl (Nat.le_of_ble_eq_true rfl) dX13_singer_41 ⟨(Nat.le_of_ble_eq_true rfl), (Nat.le_of_ble_eq_true rfl)⟩ (fun v66 H locs F G R S hpo hM hS => ?_)
        obtain ⟨hIF, hIG, hIR, hfr9, hrr9, hgr9, hpo67⟩ := hpo
        have hq_v66 := tk_rng v66
        have hFF := mz_fr (K := [0, 1, 8]) (Fa := Fa) hfr9 hFF (by decide)
        have hRR := mz_fr (K := [2, 3]) (Fa := Ra) hrr9 (fun _ _ => rfl) (by decide)
        have hGG := mz_fr (K := []) (Fa := Ga) hgr9 (fun _ _ => rfl) (by decide)
        have hf2 := (hfr9 0 (by decide)).trans hf2
        exact mz_iret (v := v66) hx hb hr rfl hlocks ⟨hIF, hIG, hIR, hFF, hRR, hGG, (by omega), (by omega)⟩ hM hS dX13_singer_44
theorem hd_yX13_isSinger : yX13_isSinger.cls ≠ "java/lang/invoke/MethodHandle" ∧ yX13_isSinger.cls ≠ "java/lang/invoke/VarHandle" ∧ (parseMethodDescriptor yX13_isSinger.desc).map (fun d => d.parameters.length) = some 1 := by decide +kernel
theorem hd_yX13_ofSinger : yX13_ofSinger.cls ≠ "java/lang/invoke/MethodHandle" ∧ yX13_ofSinger.cls ≠ "java/lang/invoke/VarHandle" ∧ (parseMethodDescriptor yX13_ofSinger.desc).map (fun d => d.parameters.length) = some 2 := by decide +kernel
theorem dX13_of_0 : decode cX13_of 0 = .ok (.aload_n 0, 1) := by decide +kernel
theorem dX13_of_1 : decode cX13_of 1 = .ok (.iconst 0, 1) := by decide +kernel
theorem dX13_of_2 : decode cX13_of 2 = .ok (.putfield 170, 3) := by decide +kernel
theorem dX13_of_5 : decode cX13_of 5 = .ok (.aload_n 0, 1) := by decide +kernel
theorem dX13_of_6 : decode cX13_of 6 = .ok (.iload_n 1, 1) := by decide +kernel
theorem dX13_of_7 : decode cX13_of 7 = .ok (.invokevirtual 201, 3) := by decide +kernel
theorem dX13_of_10 : decode cX13_of 10 = .ok (.ifCond .eq 24, 3) := by decide +kernel
theorem dX13_of_34 : decode cX13_of 34 = .ok (.iconst (-1), 1) := by decide +kernel
theorem dX13_of_35 : decode cX13_of 35 = .ok (.ireturn, 1) := by decide +kernel
theorem dX13_of_13 : decode cX13_of 13 = .ok (.iload_n 2, 1) := by decide +kernel
theorem dX13_of_14 : decode cX13_of 14 = .ok (.i2l, 1) := by decide +kernel
theorem dX13_of_15 : decode cX13_of 15 = .ok (.lconst 0, 1) := by decide +kernel
theorem dX13_of_16 : decode cX13_of 16 = .ok (.ldc2_w 205, 3) := by decide +kernel
theorem dX13_of_19 : decode cX13_of 19 = .ok (.invokestatic 190, 3) := by decide +kernel
theorem dX13_of_22 : decode cX13_of 22 = .ok (.ifCond .eq 12, 3) := by decide +kernel
theorem dX13_of_25 : decode cX13_of 25 = .ok (.aload_n 0, 1) := by decide +kernel
theorem dX13_of_26 : decode cX13_of 26 = .ok (.iload_n 1, 1) := by decide +kernel
theorem dX13_of_27 : decode cX13_of 27 = .ok (.iload_n 2, 1) := by decide +kernel
theorem dX13_of_28 : decode cX13_of 28 = .ok (.invokevirtual 207, 3) := by decide +kernel
theorem dX13_of_31 : decode cX13_of 31 = .ok (.goto 4, 3) := by decide +kernel
set_option maxHeartbeats 4000000 in
set_option maxRecDepth 100000 in
theorem k_X13_of (l : Launch) (D : va_G) (cy : Nat → ClassId) (ld ad : Nat → Nat) (am : Nat) (hD : mz_D ad am) (Fa : Nat → Int32) (Ga : Nat → Int64) (Ra : Nat → Nat → Int32) (Sa : Nat → Nat → Int64) (p1 : Int32) (p2 : Int32) (hIF : mz_IF true Fa) (hIG : mz_IG Ga) (hIR : mz_IR [] true Ra) : Met l yX13_of (wl yX13_of cX13_of 3 (some .int)) ({ frames := 5, cells := 0, slots := 0, locals := 280 }) (mz_p D cy ld ad am Fa Ga Ra Sa [.ref am, .int p1, .int p2]) (mz_i D cy ad am (fun r F G R S => mz_IF true F ∧ mz_IG G ∧ mz_IR [] true R ∧ (∀ k : Nat, k ∉ ([0] : List Nat) → F k = Fa k) ∧ (∀ k : Nat, k ∉ ([] : List Nat) → R k = Ra k) ∧ (∀ k : Nat, k ∉ ([] : List Nat) → G k = Ga k))) 0 0 (mz_W ad am) := by
  refine mz_met (y := yX13_of) (cc := cX13_of) (maxL := 3) (ret := (some .int)) (av := [.ref am, .int p1, .int p2]) _ (by decide) (Nat.le_of_ble_eq_true rfl) ?_
  intro p e s m args below meth c hx hb hr hml hts htl hown hlocks hK H locs hM hS ls hl
  have hown : s.vm.findClass RX13 = some m.cls := hown
  have hl : lv_has ls 3 [(0, .ref am), (1, .int p1), (2, .int p2)] := hl
  have hr_p1 := tk_rng p1
  have hr_p2 := tk_rng p2
  refine lv_aload_n hx hb dX13_of_0 rfl (lv_at hl 0 rfl) ?_
  refine lv_iconst (v := 0) hx hb dX13_of_1 (by decide) ?_
  have hk_0 : (0 : Int32).toInt = 0 := by decide
  refine mz_putI (ty := .int) (x := 0) hx hb htl hown hK hD hM hS 0 (Nat.le_of_ble_eq_true rfl) rfl (htl _ mw_286) (fun _ h9 => h9) rfl (tyX13_ok 0 (by decide)) rfl rfl dX13_of_2 (fun H locs F hM hS hf9 hj9 => ?_)
  have hIF := hIF.put hf9 hj9 (tk_rng _).1 (tk_rng _).2 (by decide)
  have hFF := mz_frp (K := [0]) (Fa := Fa) hj9 (fun _ _ => rfl) (by decide)
  have hf2 := hf9
  refine lv_aload_n hx hb dX13_of_5 rfl (lv_at hl 0 rfl) ?_
  refine lv_iload_n hx hb dX13_of_6 rfl (lv_at hl 1 rfl) ?_
  refine mz_Vj (As := [.int p1]) (rest := []) ⟨hx, hb, hml, hown, hts⟩ hK hM hS (k_X13_isSinger l D cy ld ad am hD _ _ _ _ p1 hIF hIG hIR) ⟨callB_of 1 hts (wl_in mw_320) rfl rfl rfl (htl _ mw_5) (htl _ mw_317) hd_yX13_isSinger ⟨(Nat.le_of_ble_eq_true rfl), (Nat.le_of_ble_eq_true rfl)⟩, htl _ mw_318, htl _ mw_319⟩ rfl hl.1 rfl (Nat.le_of_ble_eq_true rfl) dX13_of_7 ⟨(Nat.le_of_ble_eq_true rfl), (Nat.le_of_ble_eq_true rfl)⟩ (fun v3 H locs hpo hM hS => ?_)
  obtain ⟨hpo4, hpo5, hpo6, hpo7, hpo8⟩ := hpo
  have hq_v3 := tk_rng v3
  refine lv_if_eq (tgt := 34) hx hb dX13_of_10 (by decide) (fun c9 => ?_) (fun c9 => ?_)
  · have hc10 : v3.toInt = 0 := (fi_eq rfl (show (0 : Int32).toInt = 0 by decide)).mp c9
    refine lv_iconst (v := (-1)) hx hb dX13_of_34 (by decide) ?_
    have hk_m1 : ((-1) : Int32).toInt = (-1) := by decide
    exact mz_iret (v := (-1)) hx hb hr rfl hlocks ⟨hIF, hIG, hIR, hFF, (fun _ _ => rfl), (fun _ _ => rfl)⟩ hM hS dX13_of_35
  · have hc10 : ¬ (v3.toInt = 0) := fun h9 => c9 ((fi_eq rfl (show (0 : Int32).toInt = 0 by decide)).mpr h9)
    refine lv_iload_n hx hb dX13_of_13 rfl (lv_at hl 2 rfl) ?_
    obtain ⟨w11, e_w11, h_w11⟩ : ∃ z : Int64, p2.toInt64 = z ∧ z.toInt = p2.toInt := ⟨_, rfl, fl_w _⟩
    refine lv_i2l (v := w11) hx hb dX13_of_14 e_w11 ?_
    refine lv_lconst (v := 0) hx hb dX13_of_15 (by decide) ?_
    refine lv_ldc2 hx hb hown (htl _ mw_316) dX13_of_16 ?_
    have hk_0 : (0 : Int64).toInt = 0 := by decide
    have hk_4 : (4 : Int64).toInt = 4 := by decide
    refine mz_Sj (As := [.long w11, .long 0, .long 4]) (rest := []) ⟨hx, hb, hml, hown, hts⟩ hK hM hS (k_X13_in l D cy ld ad am hD _ _ _ _ w11 0 4) ⟨callB_of 3 hts (wl_in mw_292) rfl rfl rfl (htl _ mw_5) (htl _ mw_290) hd_yX13_in ⟨(Nat.le_of_ble_eq_true rfl), (Nat.le_of_ble_eq_true rfl)⟩, htl _ mw_291⟩ rfl hl.1 rfl (Nat.le_of_ble_eq_true rfl) dX13_of_19 ⟨(Nat.le_of_ble_eq_true rfl), (Nat.le_of_ble_eq_true rfl)⟩ (fun v12 H locs hpo hM hS => ?_)
    obtain ⟨hpo13, hpo14, hpo15, hpo16, hpo17, hpo18⟩ := hpo
    have hq_v12 := tk_rng v12
    refine lv_if_eq (tgt := 34) hx hb dX13_of_22 (by decide) (fun c9 => ?_) (fun c9 => ?_)
    · have hc20 : v12.toInt = 0 := (fi_eq rfl (show (0 : Int32).toInt = 0 by decide)).mp c9
      refine lv_iconst (v := (-1)) hx hb dX13_of_34 (by decide) ?_
      have hk_m1 : ((-1) : Int32).toInt = (-1) := by decide
      exact mz_iret (v := (-1)) hx hb hr rfl hlocks ⟨hIF, hIG, hIR, hFF, (fun _ _ => rfl), (fun _ _ => rfl)⟩ hM hS dX13_of_35
    · have hc20 : ¬ (v12.toInt = 0) := fun h9 => c9 ((fi_eq rfl (show (0 : Int32).toInt = 0 by decide)).mpr h9)
      refine lv_aload_n hx hb dX13_of_25 rfl (lv_at hl 0 rfl) ?_
      refine lv_iload_n hx hb dX13_of_26 rfl (lv_at hl 1 rfl) ?_
      refine lv_iload_n hx hb dX13_of_27 rfl (lv_at hl 2 rfl) ?_
      refine mz_Vj (As := [.int p1, .int p2]) (rest := []) ⟨hx, hb, hml, hown, hts⟩ hK hM hS (k_X13_ofSinger l D cy ld ad am hD _ _ _ _ p1 p2 hIF hIG hIR (by omega) (by omega) (by omega) (by omega)) ⟨callB_of 2 hts (wl_in mw_324) rfl rfl rfl (htl _ mw_5) (htl _ mw_321) hd_yX13_ofSinger ⟨(Nat.le_of_ble_eq_true rfl), (Nat.le_of_ble_eq_true rfl)⟩, htl _ mw_322, htl _ mw_323⟩ rfl hl.1 rfl (Nat.le_of_ble_eq_true rfl) dX13_of_28 ⟨(Nat.le_of_ble_eq_true rfl), (Nat.le_of_ble_eq_true rfl)⟩ (fun v21 H locs hpo hM hS => ?_)
      have hq_v21 := tk_rng v21
      refine lv_goto (tgt := 35) hx hb dX13_of_31 (by decide) ?_
      exact mz_iret (v := v21) hx hb hr rfl hlocks ⟨hIF, hIG, hIR, hFF, (fun _ _ => rfl), (fun _ _ => rfl)⟩ hM hS dX13_of_35
theorem dX13_verse1_0 : decode cX13_verse1 0 = .ok (.iload_n 1, 1) := by decide +kernel
theorem dX13_verse1_1 : decode cX13_verse1 1 = .ok (.i2l, 1) := by decide +kernel
theorem dX13_verse1_2 : decode cX13_verse1 2 = .ok (.lconst 1, 1) := by decide +kernel
theorem dX13_verse1_3 : decode cX13_verse1 3 = .ok (.ldc2_w 211, 3) := by decide +kernel
theorem dX13_verse1_6 : decode cX13_verse1 6 = .ok (.invokestatic 190, 3) := by decide +kernel
theorem dX13_verse1_9 : decode cX13_verse1 9 = .ok (.ifCond .eq 15, 3) := by decide +kernel
theorem dX13_verse1_24 : decode cX13_verse1 24 = .ok (.iconst (-1), 1) := by decide +kernel
theorem dX13_verse1_25 : decode cX13_verse1 25 = .ok (.ireturn, 1) := by decide +kernel
theorem dX13_verse1_12 : decode cX13_verse1 12 = .ok (.iload_n 2, 1) := by decide +kernel
theorem dX13_verse1_13 : decode cX13_verse1 13 = .ok (.i2l, 1) := by decide +kernel
theorem dX13_verse1_14 : decode cX13_verse1 14 = .ok (.lconst 0, 1) := by decide +kernel
theorem dX13_verse1_15 : decode cX13_verse1 15 = .ok (.ldc2_w 205, 3) := by decide +kernel
theorem dX13_verse1_18 : decode cX13_verse1 18 = .ok (.invokestatic 190, 3) := by decide +kernel
theorem dX13_verse1_21 : decode cX13_verse1 21 = .ok (.ifCond .ne 5, 3) := by decide +kernel
theorem dX13_verse1_26 : decode cX13_verse1 26 = .ok (.aload_n 0, 1) := by decide +kernel
theorem dX13_verse1_27 : decode cX13_verse1 27 = .ok (.getfield 13, 3) := by decide +kernel
theorem dX13_verse1_30 : decode cX13_verse1 30 = .ok (.iconst 1, 1) := by decide +kernel
theorem dX13_verse1_31 : decode cX13_verse1 31 = .ok (.iaload, 1) := by decide +kernel
theorem dX13_verse1_32 : decode cX13_verse1 32 = .ok (.istore_n 3, 1) := by decide +kernel
theorem dX13_verse1_33 : decode cX13_verse1 33 = .ok (.iload_n 3, 1) := by decide +kernel
theorem dX13_verse1_34 : decode cX13_verse1 34 = .ok (.bipush 10, 2) := by decide +kernel
theorem dX13_verse1_36 : decode cX13_verse1 36 = .ok (.if_icmp .ne 6, 3) := by decide +kernel
theorem dX13_verse1_42 : decode cX13_verse1 42 = .ok (.aload_n 0, 1) := by decide +kernel
theorem dX13_verse1_43 : decode cX13_verse1 43 = .ok (.getfield 13, 3) := by decide +kernel
theorem dX13_verse1_46 : decode cX13_verse1 46 = .ok (.bipush 58, 2) := by decide +kernel
theorem dX13_verse1_48 : decode cX13_verse1 48 = .ok (.iconst 2, 1) := by decide +kernel
theorem dX13_verse1_49 : decode cX13_verse1 49 = .ok (.iload_n 3, 1) := by decide +kernel
theorem dX13_verse1_50 : decode cX13_verse1 50 = .ok (.imul, 1) := by decide +kernel
theorem dX13_verse1_51 : decode cX13_verse1 51 = .ok (.iadd, 1) := by decide +kernel
theorem dX13_verse1_52 : decode cX13_verse1 52 = .ok (.iload_n 1, 1) := by decide +kernel
theorem dX13_verse1_53 : decode cX13_verse1 53 = .ok (.iastore, 1) := by decide +kernel
theorem dX13_verse1_54 : decode cX13_verse1 54 = .ok (.aload_n 0, 1) := by decide +kernel
theorem dX13_verse1_55 : decode cX13_verse1 55 = .ok (.getfield 13, 3) := by decide +kernel
theorem dX13_verse1_58 : decode cX13_verse1 58 = .ok (.bipush 58, 2) := by decide +kernel
theorem dX13_verse1_60 : decode cX13_verse1 60 = .ok (.iconst 2, 1) := by decide +kernel
theorem dX13_verse1_61 : decode cX13_verse1 61 = .ok (.iload_n 3, 1) := by decide +kernel
theorem dX13_verse1_62 : decode cX13_verse1 62 = .ok (.imul, 1) := by decide +kernel
theorem dX13_verse1_63 : decode cX13_verse1 63 = .ok (.iadd, 1) := by decide +kernel
theorem dX13_verse1_64 : decode cX13_verse1 64 = .ok (.iconst 1, 1) := by decide +kernel
theorem dX13_verse1_65 : decode cX13_verse1 65 = .ok (.iadd, 1) := by decide +kernel
theorem dX13_verse1_66 : decode cX13_verse1 66 = .ok (.iload_n 2, 1) := by decide +kernel
theorem dX13_verse1_67 : decode cX13_verse1 67 = .ok (.iastore, 1) := by decide +kernel
theorem dX13_verse1_68 : decode cX13_verse1 68 = .ok (.aload_n 0, 1) := by decide +kernel
theorem dX13_verse1_69 : decode cX13_verse1 69 = .ok (.getfield 13, 3) := by decide +kernel
theorem dX13_verse1_72 : decode cX13_verse1 72 = .ok (.iconst 1, 1) := by decide +kernel
theorem dX13_verse1_73 : decode cX13_verse1 73 = .ok (.dup2, 1) := by decide +kernel
theorem dX13_verse1_74 : decode cX13_verse1 74 = .ok (.iaload, 1) := by decide +kernel
theorem dX13_verse1_75 : decode cX13_verse1 75 = .ok (.iconst 1, 1) := by decide +kernel
theorem dX13_verse1_76 : decode cX13_verse1 76 = .ok (.iadd, 1) := by decide +kernel
theorem dX13_verse1_77 : decode cX13_verse1 77 = .ok (.iastore, 1) := by decide +kernel
theorem dX13_verse1_78 : decode cX13_verse1 78 = .ok (.iload_n 3, 1) := by decide +kernel
theorem dX13_verse1_79 : decode cX13_verse1 79 = .ok (.ireturn, 1) := by decide +kernel
theorem dX13_verse1_39 : decode cX13_verse1 39 = .ok (.bipush (-5), 2) := by decide +kernel
theorem dX13_verse1_41 : decode cX13_verse1 41 = .ok (.ireturn, 1) := by decide +kernel
set_option maxHeartbeats 4000000 in
set_option maxRecDepth 100000 in
theorem k_X13_verse1 (l : Launch) (D : va_G) (cy : Nat → ClassId) (ld ad : Nat → Nat) (am : Nat) (hD : mz_D ad am) (Fa : Nat → Int32) (Ga : Nat → Int64) (Ra : Nat → Nat → Int32) (Sa : Nat → Nat → Int64) (p1 : Int32) (p2 : Int32) (hIF : mz_IF true Fa) (hIG : mz_IG Ga) (hIR : mz_IR [] true Ra) : Met l yX13_verse1 (wl yX13_verse1 cX13_verse1 4 (some .int)) ({ frames := 4, cells := 0, slots := 0, locals := 210 }) (mz_p D cy ld ad am Fa Ga Ra Sa [.ref am, .int p1, .int p2]) (mz_i D cy ad am (fun r F G R S => mz_IF true F ∧ mz_IG G ∧ mz_IR [] true R ∧ (∀ k : Nat, k ∉ ([] : List Nat) → F k = Fa k) ∧ (∀ k : Nat, k ∉ ([3] : List Nat) → R k = Ra k) ∧ (∀ k : Nat, k ∉ ([] : List Nat) → G k = Ga k) ∧ (-5) ≤ r.toInt ∧ r.toInt ≤ 9)) 0 0 (mz_W ad am) := by
  refine mz_met (y := yX13_verse1) (cc := cX13_verse1) (maxL := 4) (ret := (some .int)) (av := [.ref am, .int p1, .int p2]) _ (by decide) (Nat.le_of_ble_eq_true rfl) ?_
  intro p e s m args below meth c hx hb hr hml hts htl hown hlocks hK H locs hM hS ls hl
  have hown : s.vm.findClass RX13 = some m.cls := hown
  have hl : lv_has ls 4 [(0, .ref am), (1, .int p1), (2, .int p2)] := hl
  have hr_p1 := tk_rng p1
  have hr_p2 := tk_rng p2
  refine lv_iload_n hx hb dX13_verse1_0 rfl (lv_at hl 1 rfl) ?_
  obtain ⟨w1, e_w1, h_w1⟩ : ∃ z : Int64, p1.toInt64 = z ∧ z.toInt = p1.toInt := ⟨_, rfl, fl_w _⟩
  refine lv_i2l (v := w1) hx hb dX13_verse1_1 e_w1 ?_
  refine lv_lconst (v := 1) hx hb dX13_verse1_2 (by decide) ?_
  refine lv_ldc2 hx hb hown (htl _ mw_342) dX13_verse1_3 ?_
  have hk_1 : (1 : Int64).toInt = 1 := by decide
  have hk_99 : (99 : Int64).toInt = 99 := by decide
  refine mz_Sj (As := [.long w1, .long 1, .long 99]) (rest := []) ⟨hx, hb, hml, hown, hts⟩ hK hM hS (k_X13_in l D cy ld ad am hD _ _ _ _ w1 1 99) ⟨callB_of 3 hts (wl_in mw_292) rfl rfl rfl (htl _ mw_5) (htl _ mw_290) hd_yX13_in ⟨(Nat.le_of_ble_eq_true rfl), (Nat.le_of_ble_eq_true rfl)⟩, htl _ mw_291⟩ rfl hl.1 rfl (Nat.le_of_ble_eq_true rfl) dX13_verse1_6 ⟨(Nat.le_of_ble_eq_true rfl), (Nat.le_of_ble_eq_true rfl)⟩ (fun v2 H locs hpo hM hS => ?_)
  obtain ⟨hpo3, hpo4, hpo5, hpo6, hpo7, hpo8⟩ := hpo
  have hq_v2 := tk_rng v2
  refine lv_if_eq (tgt := 24) hx hb dX13_verse1_9 (by decide) (fun c9 => ?_) (fun c9 => ?_)
  · have hc10 : v2.toInt = 0 := (fi_eq rfl (show (0 : Int32).toInt = 0 by decide)).mp c9
    refine lv_iconst (v := (-1)) hx hb dX13_verse1_24 (by decide) ?_
    have hk_m1 : ((-1) : Int32).toInt = (-1) := by decide
    exact mz_iret (v := (-1)) hx hb hr rfl hlocks ⟨hIF, hIG, hIR, (fun _ _ => rfl), (fun _ _ => rfl), (fun _ _ => rfl), (by omega), (by omega)⟩ hM hS dX13_verse1_25
  · have hc10 : ¬ (v2.toInt = 0) := fun h9 => c9 ((fi_eq rfl (show (0 : Int32).toInt = 0 by decide)).mpr h9)
    refine lv_iload_n hx hb dX13_verse1_12 rfl (lv_at hl 2 rfl) ?_
    obtain ⟨w11, e_w11, h_w11⟩ : ∃ z : Int64, p2.toInt64 = z ∧ z.toInt = p2.toInt := ⟨_, rfl, fl_w _⟩
    refine lv_i2l (v := w11) hx hb dX13_verse1_13 e_w11 ?_
    refine lv_lconst (v := 0) hx hb dX13_verse1_14 (by decide) ?_
    refine lv_ldc2 hx hb hown (htl _ mw_316) dX13_verse1_15 ?_
    have hk_0 : (0 : Int64).toInt = 0 := by decide
    have hk_4 : (4 : Int64).toInt = 4 := by decide
    refine mz_Sj (As := [.long w11, .long 0, .long 4]) (rest := []) ⟨hx, hb, hml, hown, hts⟩ hK hM hS (k_X13_in l D cy ld ad am hD _ _ _ _ w11 0 4) ⟨callB_of 3 hts (wl_in mw_292) rfl rfl rfl (htl _ mw_5) (htl _ mw_290) hd_yX13_in ⟨(Nat.le_of_ble_eq_true rfl), (Nat.le_of_ble_eq_true rfl)⟩, htl _ mw_291⟩ rfl hl.1 rfl (Nat.le_of_ble_eq_true rfl) dX13_verse1_18 ⟨(Nat.le_of_ble_eq_true rfl), (Nat.le_of_ble_eq_true rfl)⟩ (fun v12 H locs hpo hM hS => ?_)
    obtain ⟨hpo13, hpo14, hpo15, hpo16, hpo17, hpo18⟩ := hpo
    have hq_v12 := tk_rng v12
    refine lv_if_ne (tgt := 26) hx hb dX13_verse1_21 (by decide) (fun c9 => ?_) (fun c9 => ?_)
    · have hc20 : ¬ (v12.toInt = 0) := fun h9 => c9 ((fi_eq rfl (show (0 : Int32).toInt = 0 by decide)).mpr h9)
      refine lv_aload_n hx hb dX13_verse1_26 rfl (lv_at hl 0 rfl) ?_
      refine mz_getR hx hb htl hown hK hM 3 (Nat.le_of_ble_eq_true rfl) (Nat.le_of_ble_eq_true rfl) (htl _ mw_188) (fun _ h9 => h9) dX13_verse1_27 ?_
      refine lv_iconst (v := 1) hx hb dX13_verse1_30 (by decide) ?_
      refine mz_iald hx hb hK hM 3 (Nat.le_of_ble_eq_true rfl) rfl (nn := 5560) rfl (I := 1) (by decide) (by decide) (by decide) dX13_verse1_31 (fun v22 hf21 => ?_)
      have hf21 : Ra 3 1 = v22 := hf21
      have hq_v22 := tk_rng v22
      have hr_v22 : 0 ≤ v22.toInt ∧ v22.toInt ≤ 10 := by have h9 := mz_r3c 1 (hIR.at 3) hf21 (by decide); unfold mE at h9; omega
      refine lv_istore_n (lv' := [(3, .int v22), (0, .ref am), (1, .int p1), (2, .int p2)]) hx hb dX13_verse1_32 rfl hl (by decide) rfl (fun ls hl => ?_)
      refine lv_iload_n hx hb dX13_verse1_33 rfl (lv_at hl 0 rfl) ?_
      refine lv_bipush (v := 10) hx hb dX13_verse1_34 (by decide) ?_
      refine lv_icmp_ne (tgt := 42) hx hb dX13_verse1_36 (by decide) (fun c9 => ?_) (fun c9 => ?_)
      · have hc23 : ¬ (v22.toInt = 10) := fun h9 => c9 ((fi_eq rfl (show (10 : Int32).toInt = 10 by decide)).mpr h9)
        refine lv_aload_n hx hb dX13_verse1_42 rfl (lv_at hl 1 rfl) ?_
        refine mz_getR hx hb htl hown hK hM 3 (Nat.le_of_ble_eq_true rfl) (Nat.le_of_ble_eq_true rfl) (htl _ mw_188) (fun _ h9 => h9) dX13_verse1_43 ?_
        refine lv_bipush (v := 58) hx hb dX13_verse1_46 (by decide) ?_
        refine lv_iconst (v := 2) hx hb dX13_verse1_48 (by decide) ?_
        refine lv_iload_n hx hb dX13_verse1_49 rfl (lv_at hl 0 rfl) ?_
        refine lv_imul hx hb dX13_verse1_50 ?_
        refine tk_mul (show (2 : Int32).toInt = 2 by decide) rfl (by omega) (by omega) (fun v24 h_v24 => ?_)
        refine lv_iadd hx hb dX13_verse1_51 ?_
        refine tk_add (show (58 : Int32).toInt = 58 by decide) rfl (by omega) (by omega) (fun v25 h_v25 => ?_)
        refine lv_iload_n hx hb dX13_verse1_52 rfl (lv_at hl 2 rfl) ?_
        refine mz_iast (x := p1) hx hb hK hD hM hS 3 (Nat.le_of_ble_eq_true rfl) rfl (nn := 5560) rfl rfl (by omega) (by omega) dX13_verse1_53 (fun H locs R hM hS hw9 hj9 => ?_)
        have hIR := hIR.put hw9 hj9 (mz_r3 (hIR.at 3) (I := v25.toInt) rfl (by omega) (by omega) (fun h9 => by first | (cases h9; done) | omega) (by unfold mE; omega))
        have hRR := mz_frp (K := [3]) (Fa := Ra) hj9 (fun _ _ => rfl) (by decide)
        have hf21 : R 3 1 = _ := (congrFun hw9 1).trans ((pk_un (fun h9 => by have h8 := tk_nat (i := v25) rfl (by omega); omega)).trans hf21)
        refine lv_aload_n hx hb dX13_verse1_54 rfl (lv_at hl 1 rfl) ?_
        refine mz_getR hx hb htl hown hK hM 3 (Nat.le_of_ble_eq_true rfl) (Nat.le_of_ble_eq_true rfl) (htl _ mw_188) (fun _ h9 => h9) dX13_verse1_55 ?_
        refine lv_bipush (v := 58) hx hb dX13_verse1_58 (by decide) ?_
        refine lv_iconst (v := 2) hx hb dX13_verse1_60 (by decide) ?_
        refine lv_iload_n hx hb dX13_verse1_61 rfl (lv_at hl 0 rfl) ?_
        refine lv_imul hx hb dX13_verse1_62 ?_
        refine tk_mul (show (2 : Int32).toInt = 2 by decide) rfl (by omega) (by omega) (fun v27 h_v27 => ?_)
        refine lv_iadd hx hb dX13_verse1_63 ?_
        refine tk_add (show (58 : Int32).toInt = 58 by decide) rfl (by omega) (by omega) (fun v28 h_v28 => ?_)
        refine lv_iconst (v := 1) hx hb dX13_verse1_64 (by decide) ?_
        refine lv_iadd hx hb dX13_verse1_65 ?_
        refine tk_add rfl (show (1 : Int32).toInt = 1 by decide) (by omega) (by omega) (fun v29 h_v29 => ?_)
        refine lv_iload_n hx hb dX13_verse1_66 rfl (lv_at hl 3 rfl) ?_
        refine mz_iast (x := p2) hx hb hK hD hM hS 3 (Nat.le_of_ble_eq_true rfl) rfl (nn := 5560) rfl rfl (by omega) (by omega) dX13_verse1_67 (fun H locs R hM hS hw9 hj9 => ?_)
        have hIR := hIR.put hw9 hj9 (mz_r3 (hIR.at 3) (I := v29.toInt) rfl (by omega) (by omega) (fun h9 => by first | (cases h9; done) | omega) (by unfold mE; omega))
        have hRR := mz_frp (K := [3]) (Fa := Ra) hj9 hRR (by decide)
        have hf21 : R 3 1 = _ := (congrFun hw9 1).trans ((pk_un (fun h9 => by have h8 := tk_nat (i := v29) rfl (by omega); omega)).trans hf21)
        refine lv_aload_n hx hb dX13_verse1_68 rfl (lv_at hl 1 rfl) ?_
        refine mz_getR hx hb htl hown hK hM 3 (Nat.le_of_ble_eq_true rfl) (Nat.le_of_ble_eq_true rfl) (htl _ mw_188) (fun _ h9 => h9) dX13_verse1_69 ?_
        refine lv_iconst (v := 1) hx hb dX13_verse1_72 (by decide) ?_
        refine lv_dup2_11 hx hb dX13_verse1_73 rfl rfl ?_
        refine mz_iald hx hb hK hM 3 (Nat.le_of_ble_eq_true rfl) rfl (nn := 5560) rfl (I := 1) (by decide) (by decide) (by decide) dX13_verse1_74 (fun v9 e9 => ?_)
        refine fx_ti (v := v22) (e9.symm.trans (show R 3 (1 : Int32).toNatClampNeg = _ from hf21)) ?_
        refine lv_iconst (v := 1) hx hb dX13_verse1_75 (by decide) ?_
        refine lv_iadd hx hb dX13_verse1_76 ?_
        refine tk_add rfl (show (1 : Int32).toInt = 1 by decide) (by omega) (by omega) (fun v31 h_v31 => ?_)
        have hk_1 : (1 : Int32).toInt = 1 := by decide
        refine mz_iast (x := v31) hx hb hK hD hM hS 3 (Nat.le_of_ble_eq_true rfl) rfl (nn := 5560) rfl (I := 1) (by decide) (by decide) (by decide) dX13_verse1_77 (fun H locs R hM hS hw9 hj9 => ?_)
        have hIR := hIR.put hw9 hj9 (mz_r3 (hIR.at 3) (I := 1) (by decide) (by omega) (by omega) (fun h9 => by first | (cases h9; done) | omega) (by unfold mE; omega))
        have hRR := mz_frp (K := [3]) (Fa := Ra) hj9 hRR (by decide)
        have hf33 : R 3 1 = v31 := (congrFun hw9 1).trans pk_us
        refine lv_iload_n hx hb dX13_verse1_78 rfl (lv_at hl 0 rfl) ?_
        exact mz_iret (v := v22) hx hb hr rfl hlocks ⟨hIF, hIG, hIR, (fun _ _ => rfl), hRR, (fun _ _ => rfl), (by omega), (by omega)⟩ hM hS dX13_verse1_79
      · have hc23 : v22.toInt = 10 := (fi_eq rfl (show (10 : Int32).toInt = 10 by decide)).mp c9
        refine lv_bipush (v := (-5)) hx hb dX13_verse1_39 (by decide) ?_
        have hk_m5 : ((-5) : Int32).toInt = (-5) := by decide
        exact mz_iret (v := (-5)) hx hb hr rfl hlocks ⟨hIF, hIG, hIR, (fun _ _ => rfl), (fun _ _ => rfl), (fun _ _ => rfl), (by omega), (by omega)⟩ hM hS dX13_verse1_41
    · have hc20 : v12.toInt = 0 := (fi_eq rfl (show (0 : Int32).toInt = 0 by decide)).mp c9
      refine lv_iconst (v := (-1)) hx hb dX13_verse1_24 (by decide) ?_
      have hk_m1 : ((-1) : Int32).toInt = (-1) := by decide
      exact mz_iret (v := (-1)) hx hb hr rfl hlocks ⟨hIF, hIG, hIR, (fun _ _ => rfl), (fun _ _ => rfl), (fun _ _ => rfl), (by omega), (by omega)⟩ hM hS dX13_verse1_25
theorem hd_yX13_verse1 : yX13_verse1.cls ≠ "java/lang/invoke/MethodHandle" ∧ yX13_verse1.cls ≠ "java/lang/invoke/VarHandle" ∧ (parseMethodDescriptor yX13_verse1.desc).map (fun d => d.parameters.length) = some 2 := by decide +kernel
theorem dX13_verse_0 : decode cX13_verse 0 = .ok (.aload_n 0, 1) := by decide +kernel
theorem dX13_verse_1 : decode cX13_verse 1 = .ok (.iconst 0, 1) := by decide +kernel
theorem dX13_verse_2 : decode cX13_verse 2 = .ok (.putfield 170, 3) := by decide +kernel
theorem dX13_verse_5 : decode cX13_verse 5 = .ok (.aload_n 0, 1) := by decide +kernel
theorem dX13_verse_6 : decode cX13_verse 6 = .ok (.aload_n 0, 1) := by decide +kernel
theorem dX13_verse_7 : decode cX13_verse 7 = .ok (.iload_n 1, 1) := by decide +kernel
theorem dX13_verse_8 : decode cX13_verse 8 = .ok (.iload_n 2, 1) := by decide +kernel
theorem dX13_verse_9 : decode cX13_verse 9 = .ok (.invokevirtual 213, 3) := by decide +kernel
theorem dX13_verse_12 : decode cX13_verse 12 = .ok (.invokevirtual 183, 3) := by decide +kernel
theorem dX13_verse_15 : decode cX13_verse 15 = .ok (.ireturn, 1) := by decide +kernel
set_option maxHeartbeats 4000000 in
set_option maxRecDepth 100000 in
theorem k_X13_verse (l : Launch) (D : va_G) (cy : Nat → ClassId) (ld ad : Nat → Nat) (am : Nat) (hD : mz_D ad am) (Fa : Nat → Int32) (Ga : Nat → Int64) (Ra : Nat → Nat → Int32) (Sa : Nat → Nat → Int64) (p1 : Int32) (p2 : Int32) (hIF : mz_IF true Fa) (hIG : mz_IG Ga) (hIR : mz_IR [] true Ra) : Met l yX13_verse (wl yX13_verse cX13_verse 3 (some .int)) ({ frames := 5, cells := 0, slots := 0, locals := 280 }) (mz_p D cy ld ad am Fa Ga Ra Sa [.ref am, .int p1, .int p2]) (mz_i D cy ad am (fun r F G R S => mz_IF true F ∧ mz_IG G ∧ mz_IR [] true R ∧ (∀ k : Nat, k ∉ ([0, 1] : List Nat) → F k = Fa k) ∧ (∀ k : Nat, k ∉ ([2, 3] : List Nat) → R k = Ra k) ∧ (∀ k : Nat, k ∉ ([] : List Nat) → G k = Ga k) ∧ (-5) ≤ r.toInt ∧ r.toInt ≤ 9)) 0 0 (mz_W ad am) := by
  refine mz_met (y := yX13_verse) (cc := cX13_verse) (maxL := 3) (ret := (some .int)) (av := [.ref am, .int p1, .int p2]) _ (by decide) (Nat.le_of_ble_eq_true rfl) ?_
  intro p e s m args below meth c hx hb hr hml hts htl hown hlocks hK H locs hM hS ls hl
  have hown : s.vm.findClass RX13 = some m.cls := hown
  have hl : lv_has ls 3 [(0, .ref am), (1, .int p1), (2, .int p2)] := hl
  have hr_p1 := tk_rng p1
  have hr_p2 := tk_rng p2
  refine lv_aload_n hx hb dX13_verse_0 rfl (lv_at hl 0 rfl) ?_
  refine lv_iconst (v := 0) hx hb dX13_verse_1 (by decide) ?_
  have hk_0 : (0 : Int32).toInt = 0 := by decide
  refine mz_putI (ty := .int) (x := 0) hx hb htl hown hK hD hM hS 0 (Nat.le_of_ble_eq_true rfl) rfl (htl _ mw_286) (fun _ h9 => h9) rfl (tyX13_ok 0 (by decide)) rfl rfl dX13_verse_2 (fun H locs F hM hS hf9 hj9 => ?_)
  have hIF := hIF.put hf9 hj9 (tk_rng _).1 (tk_rng _).2 (by decide)
  have hFF := mz_frp (K := [0, 1]) (Fa := Fa) hj9 (fun _ _ => rfl) (by decide)
  have hf2 := hf9
  refine lv_aload_n hx hb dX13_verse_5 rfl (lv_at hl 0 rfl) ?_
  refine lv_aload_n hx hb dX13_verse_6 rfl (lv_at hl 0 rfl) ?_
  refine lv_iload_n hx hb dX13_verse_7 rfl (lv_at hl 1 rfl) ?_
  refine lv_iload_n hx hb dX13_verse_8 rfl (lv_at hl 2 rfl) ?_
  refine mz_Vi (As := [.int p1, .int p2]) (rest := [.ref am]) ⟨hx, hb, hml, hown, hts⟩ hK hM hS (k_X13_verse1 l D cy ld ad am hD _ _ _ _ p1 p2 hIF hIG hIR) ⟨callB_of 2 hts (wl_in mw_341) rfl rfl rfl (htl _ mw_5) (htl _ mw_338) hd_yX13_verse1 ⟨(Nat.le_of_ble_eq_true rfl), (Nat.le_of_ble_eq_true rfl)⟩, htl _ mw_339, htl _ mw_340⟩ rfl hl.1 rfl (Nat.le_of_ble_eq_true rfl) dX13_verse_9 ⟨(Nat.le_of_ble_eq_true rfl), (Nat.le_of_ble_eq_true rfl)⟩ (fun v3 H locs F G R S hpo hM hS => ?_)
  obtain ⟨hIF, hIG, hIR, hfr9, hrr9, hgr9, hpo4, hpo5⟩ := hpo
  have hq_v3 := tk_rng v3
  have hFF := mz_fr (K := [0, 1]) (Fa := Fa) hfr9 hFF (by decide)
  have hRR := mz_fr (K := [2, 3]) (Fa := Ra) hrr9 (fun _ _ => rfl) (by decide)
  have hGG := mz_fr (K := []) (Fa := Ga) hgr9 (fun _ _ => rfl) (by decide)
  have hf2 := (hfr9 0 (by decide)).trans hf2
  refine mz_Vi (As := [.int v3]) (rest := []) ⟨hx, hb, hml, hown, hts⟩ hK hM hS (k_X13_tell l D cy ld ad am hD _ _ _ _ v3 hIF hIG hIR (by omega) (by omega)) ⟨callB_of 1 hts (wl_in mw_296) rfl rfl rfl (htl _ mw_5) (htl _ mw_293) hd_yX13_tell ⟨(Nat.le_of_ble_eq_true rfl), (Nat.le_of_ble_eq_true rfl)⟩, htl _ mw_294, htl _ mw_295⟩ rfl hl.1 rfl (Nat.le_of_ble_eq_true rfl) dX13_verse_12 ⟨(Nat.le_of_ble_eq_true rfl), (Nat.le_of_ble_eq_true rfl)⟩ (fun v7 H locs F G R S hpo hM hS => ?_)
  obtain ⟨hIF, hIG, hIR, hfr9, hrr9, hgr9, hpo8⟩ := hpo
  have hq_v7 := tk_rng v7
  have hFF := mz_fr (K := [0, 1]) (Fa := Fa) hfr9 hFF (by decide)
  have hRR := mz_fr (K := [2, 3]) (Fa := Ra) hrr9 hRR (by decide)
  have hGG := mz_fr (K := []) (Fa := Ga) hgr9 hGG (by decide)
  have hf2 := (hfr9 0 (by decide)).trans hf2
  exact mz_iret (v := v7) hx hb hr rfl hlocks ⟨hIF, hIG, hIR, hFF, hRR, hGG, (by omega), (by omega)⟩ hM hS dX13_verse_15
theorem hd_yX13_isVerse : yX13_isVerse.cls ≠ "java/lang/invoke/MethodHandle" ∧ yX13_isVerse.cls ≠ "java/lang/invoke/VarHandle" ∧ (parseMethodDescriptor yX13_isVerse.desc).map (fun d => d.parameters.length) = some 1 := by decide +kernel
theorem dX13_at_0 : decode cX13_at 0 = .ok (.aload_n 0, 1) := by decide +kernel
theorem dX13_at_1 : decode cX13_at 1 = .ok (.iconst 0, 1) := by decide +kernel
theorem dX13_at_2 : decode cX13_at 2 = .ok (.putfield 170, 3) := by decide +kernel
theorem dX13_at_5 : decode cX13_at 5 = .ok (.aload_n 0, 1) := by decide +kernel
theorem dX13_at_6 : decode cX13_at 6 = .ok (.iload_n 1, 1) := by decide +kernel
theorem dX13_at_7 : decode cX13_at 7 = .ok (.invokevirtual 216, 3) := by decide +kernel
theorem dX13_at_10 : decode cX13_at 10 = .ok (.ifCond .eq 29, 3) := by decide +kernel
theorem dX13_at_39 : decode cX13_at 39 = .ok (.iconst (-1), 1) := by decide +kernel
theorem dX13_at_40 : decode cX13_at 40 = .ok (.ireturn, 1) := by decide +kernel
theorem dX13_at_13 : decode cX13_at 13 = .ok (.iload_n 2, 1) := by decide +kernel
theorem dX13_at_14 : decode cX13_at 14 = .ok (.i2l, 1) := by decide +kernel
theorem dX13_at_15 : decode cX13_at 15 = .ok (.lconst 0, 1) := by decide +kernel
theorem dX13_at_16 : decode cX13_at 16 = .ok (.lconst 1, 1) := by decide +kernel
theorem dX13_at_17 : decode cX13_at 17 = .ok (.invokestatic 190, 3) := by decide +kernel
theorem dX13_at_20 : decode cX13_at 20 = .ok (.ifCond .eq 19, 3) := by decide +kernel
theorem dX13_at_23 : decode cX13_at 23 = .ok (.aload_n 0, 1) := by decide +kernel
theorem dX13_at_24 : decode cX13_at 24 = .ok (.getfield 13, 3) := by decide +kernel
theorem dX13_at_27 : decode cX13_at 27 = .ok (.bipush 58, 2) := by decide +kernel
theorem dX13_at_29 : decode cX13_at 29 = .ok (.iconst 2, 1) := by decide +kernel
theorem dX13_at_30 : decode cX13_at 30 = .ok (.iload_n 1, 1) := by decide +kernel
theorem dX13_at_31 : decode cX13_at 31 = .ok (.imul, 1) := by decide +kernel
theorem dX13_at_32 : decode cX13_at 32 = .ok (.iadd, 1) := by decide +kernel
theorem dX13_at_33 : decode cX13_at 33 = .ok (.iload_n 2, 1) := by decide +kernel
theorem dX13_at_34 : decode cX13_at 34 = .ok (.iadd, 1) := by decide +kernel
theorem dX13_at_35 : decode cX13_at 35 = .ok (.iaload, 1) := by decide +kernel
theorem dX13_at_36 : decode cX13_at 36 = .ok (.goto 4, 3) := by decide +kernel
set_option maxHeartbeats 4000000 in
set_option maxRecDepth 100000 in
theorem k_X13_at (l : Launch) (D : va_G) (cy : Nat → ClassId) (ld ad : Nat → Nat) (am : Nat) (hD : mz_D ad am) (Fa : Nat → Int32) (Ga : Nat → Int64) (Ra : Nat → Nat → Int32) (Sa : Nat → Nat → Int64) (p1 : Int32) (p2 : Int32) (hIF : mz_IF true Fa) (hIG : mz_IG Ga) (hIR : mz_IR [] true Ra) : Met l yX13_at (wl yX13_at cX13_at 3 (some .int)) ({ frames := 5, cells := 0, slots := 0, locals := 280 }) (mz_p D cy ld ad am Fa Ga Ra Sa [.ref am, .int p1, .int p2]) (mz_i D cy ad am (fun r F G R S => mz_IF true F ∧ mz_IG G ∧ mz_IR [] true R ∧ (∀ k : Nat, k ∉ ([0] : List Nat) → F k = Fa k) ∧ (∀ k : Nat, k ∉ ([] : List Nat) → R k = Ra k) ∧ (∀ k : Nat, k ∉ ([] : List Nat) → G k = Ga k))) 0 0 (mz_W ad am) := by
  refine mz_met (y := yX13_at) (cc := cX13_at) (maxL := 3) (ret := (some .int)) (av := [.ref am, .int p1, .int p2]) _ (by decide) (Nat.le_of_ble_eq_true rfl) ?_
  intro p e s m args below meth c hx hb hr hml hts htl hown hlocks hK H locs hM hS ls hl
  have hown : s.vm.findClass RX13 = some m.cls := hown
  have hl : lv_has ls 3 [(0, .ref am), (1, .int p1), (2, .int p2)] := hl
  have hr_p1 := tk_rng p1
  have hr_p2 := tk_rng p2
  refine lv_aload_n hx hb dX13_at_0 rfl (lv_at hl 0 rfl) ?_
  refine lv_iconst (v := 0) hx hb dX13_at_1 (by decide) ?_
  have hk_0 : (0 : Int32).toInt = 0 := by decide
  refine mz_putI (ty := .int) (x := 0) hx hb htl hown hK hD hM hS 0 (Nat.le_of_ble_eq_true rfl) rfl (htl _ mw_286) (fun _ h9 => h9) rfl (tyX13_ok 0 (by decide)) rfl rfl dX13_at_2 (fun H locs F hM hS hf9 hj9 => ?_)
  have hIF := hIF.put hf9 hj9 (tk_rng _).1 (tk_rng _).2 (by decide)
  have hFF := mz_frp (K := [0]) (Fa := Fa) hj9 (fun _ _ => rfl) (by decide)
  have hf2 := hf9
  refine lv_aload_n hx hb dX13_at_5 rfl (lv_at hl 0 rfl) ?_
  refine lv_iload_n hx hb dX13_at_6 rfl (lv_at hl 1 rfl) ?_
  refine mz_Vj (As := [.int p1]) (rest := []) ⟨hx, hb, hml, hown, hts⟩ hK hM hS (k_X13_isVerse l D cy ld ad am hD _ _ _ _ p1 hIF hIG hIR) ⟨callB_of 1 hts (wl_in mw_360) rfl rfl rfl (htl _ mw_5) (htl _ mw_357) hd_yX13_isVerse ⟨(Nat.le_of_ble_eq_true rfl), (Nat.le_of_ble_eq_true rfl)⟩, htl _ mw_358, htl _ mw_359⟩ rfl hl.1 rfl (Nat.le_of_ble_eq_true rfl) dX13_at_7 ⟨(Nat.le_of_ble_eq_true rfl), (Nat.le_of_ble_eq_true rfl)⟩ (fun v3 H locs hpo hM hS => ?_)
  obtain ⟨hpo4, hpo5, hpo6, hpo7, hpo8⟩ := hpo
  have hq_v3 := tk_rng v3
  refine lv_if_eq (tgt := 39) hx hb dX13_at_10 (by decide) (fun c9 => ?_) (fun c9 => ?_)
  · have hc10 : v3.toInt = 0 := (fi_eq rfl (show (0 : Int32).toInt = 0 by decide)).mp c9
    refine lv_iconst (v := (-1)) hx hb dX13_at_39 (by decide) ?_
    have hk_m1 : ((-1) : Int32).toInt = (-1) := by decide
    exact mz_iret (v := (-1)) hx hb hr rfl hlocks ⟨hIF, hIG, hIR, hFF, (fun _ _ => rfl), (fun _ _ => rfl)⟩ hM hS dX13_at_40
  · have hc10 : ¬ (v3.toInt = 0) := fun h9 => c9 ((fi_eq rfl (show (0 : Int32).toInt = 0 by decide)).mpr h9)
    refine lv_iload_n hx hb dX13_at_13 rfl (lv_at hl 2 rfl) ?_
    obtain ⟨w11, e_w11, h_w11⟩ : ∃ z : Int64, p2.toInt64 = z ∧ z.toInt = p2.toInt := ⟨_, rfl, fl_w _⟩
    refine lv_i2l (v := w11) hx hb dX13_at_14 e_w11 ?_
    refine lv_lconst (v := 0) hx hb dX13_at_15 (by decide) ?_
    refine lv_lconst (v := 1) hx hb dX13_at_16 (by decide) ?_
    have hk_0 : (0 : Int64).toInt = 0 := by decide
    have hk_1 : (1 : Int64).toInt = 1 := by decide
    refine mz_Sj (As := [.long w11, .long 0, .long 1]) (rest := []) ⟨hx, hb, hml, hown, hts⟩ hK hM hS (k_X13_in l D cy ld ad am hD _ _ _ _ w11 0 1) ⟨callB_of 3 hts (wl_in mw_292) rfl rfl rfl (htl _ mw_5) (htl _ mw_290) hd_yX13_in ⟨(Nat.le_of_ble_eq_true rfl), (Nat.le_of_ble_eq_true rfl)⟩, htl _ mw_291⟩ rfl hl.1 rfl (Nat.le_of_ble_eq_true rfl) dX13_at_17 ⟨(Nat.le_of_ble_eq_true rfl), (Nat.le_of_ble_eq_true rfl)⟩ (fun v12 H locs hpo hM hS => ?_)
    obtain ⟨hpo13, hpo14, hpo15, hpo16, hpo17, hpo18⟩ := hpo
    have hq_v12 := tk_rng v12
    refine lv_if_eq (tgt := 39) hx hb dX13_at_20 (by decide) (fun c9 => ?_) (fun c9 => ?_)
    · have hc20 : v12.toInt = 0 := (fi_eq rfl (show (0 : Int32).toInt = 0 by decide)).mp c9
      refine lv_iconst (v := (-1)) hx hb dX13_at_39 (by decide) ?_
      have hk_m1 : ((-1) : Int32).toInt = (-1) := by decide
      exact mz_iret (v := (-1)) hx hb hr rfl hlocks ⟨hIF, hIG, hIR, hFF, (fun _ _ => rfl), (fun _ _ => rfl)⟩ hM hS dX13_at_40
    · have hc20 : ¬ (v12.toInt = 0) := fun h9 => c9 ((fi_eq rfl (show (0 : Int32).toInt = 0 by decide)).mpr h9)
      refine lv_aload_n hx hb dX13_at_23 rfl (lv_at hl 0 rfl) ?_
      refine mz_getR hx hb htl hown hK hM 3 (Nat.le_of_ble_eq_true rfl) (Nat.le_of_ble_eq_true rfl) (htl _ mw_188) (fun _ h9 => h9) dX13_at_24 ?_
      refine lv_bipush (v := 58) hx hb dX13_at_27 (by decide) ?_
      refine lv_iconst (v := 2) hx hb dX13_at_29 (by decide) ?_
      refine lv_iload_n hx hb dX13_at_30 rfl (lv_at hl 1 rfl) ?_
      refine lv_imul hx hb dX13_at_31 ?_
      refine tk_mul (show (2 : Int32).toInt = 2 by decide) rfl (by omega) (by omega) (fun v21 h_v21 => ?_)
      refine lv_iadd hx hb dX13_at_32 ?_
      refine tk_add (show (58 : Int32).toInt = 58 by decide) rfl (by omega) (by omega) (fun v22 h_v22 => ?_)
      refine lv_iload_n hx hb dX13_at_33 rfl (lv_at hl 2 rfl) ?_
      refine lv_iadd hx hb dX13_at_34 ?_
      refine tk_add rfl rfl (by omega) (by omega) (fun v23 h_v23 => ?_)
      refine mz_iald hx hb hK hM 3 (Nat.le_of_ble_eq_true rfl) rfl (nn := 5560) rfl rfl (by omega) (by omega) dX13_at_35 (fun v24 e_v24 => ?_)
      have hq_v24 := tk_rng v24
      refine lv_goto (tgt := 40) hx hb dX13_at_36 (by decide) ?_
      exact mz_iret (v := v24) hx hb hr rfl hlocks ⟨hIF, hIG, hIR, hFF, (fun _ _ => rfl), (fun _ _ => rfl)⟩ hM hS dX13_at_40
theorem dX13_piece_0 : decode cX13_piece 0 = .ok (.aload_n 0, 1) := by decide +kernel
theorem dX13_piece_1 : decode cX13_piece 1 = .ok (.iconst 0, 1) := by decide +kernel
theorem dX13_piece_2 : decode cX13_piece 2 = .ok (.putfield 170, 3) := by decide +kernel
theorem dX13_piece_5 : decode cX13_piece 5 = .ok (.iload_n 1, 1) := by decide +kernel
theorem dX13_piece_6 : decode cX13_piece 6 = .ok (.i2l, 1) := by decide +kernel
theorem dX13_piece_7 : decode cX13_piece 7 = .ok (.lconst 1, 1) := by decide +kernel
theorem dX13_piece_8 : decode cX13_piece 8 = .ok (.ldc2_w 211, 3) := by decide +kernel
theorem dX13_piece_11 : decode cX13_piece 11 = .ok (.invokestatic 190, 3) := by decide +kernel
theorem dX13_piece_14 : decode cX13_piece 14 = .ok (.ifCond .eq 27, 3) := by decide +kernel
theorem dX13_piece_41 : decode cX13_piece 41 = .ok (.aload_n 0, 1) := by decide +kernel
theorem dX13_piece_42 : decode cX13_piece 42 = .ok (.iconst (-1), 1) := by decide +kernel
theorem dX13_piece_43 : decode cX13_piece 43 = .ok (.invokevirtual 183, 3) := by decide +kernel
theorem dX13_piece_46 : decode cX13_piece 46 = .ok (.ireturn, 1) := by decide +kernel
theorem dX13_piece_17 : decode cX13_piece 17 = .ok (.iload_n 2, 1) := by decide +kernel
theorem dX13_piece_18 : decode cX13_piece 18 = .ok (.i2l, 1) := by decide +kernel
theorem dX13_piece_19 : decode cX13_piece 19 = .ok (.lconst 0, 1) := by decide +kernel
theorem dX13_piece_20 : decode cX13_piece 20 = .ok (.ldc2_w 205, 3) := by decide +kernel
theorem dX13_piece_23 : decode cX13_piece 23 = .ok (.invokestatic 190, 3) := by decide +kernel
theorem dX13_piece_26 : decode cX13_piece 26 = .ok (.ifCond .eq 15, 3) := by decide +kernel
theorem dX13_piece_29 : decode cX13_piece 29 = .ok (.iload_n 3, 1) := by decide +kernel
theorem dX13_piece_30 : decode cX13_piece 30 = .ok (.i2l, 1) := by decide +kernel
theorem dX13_piece_31 : decode cX13_piece 31 = .ok (.lconst 1, 1) := by decide +kernel
theorem dX13_piece_32 : decode cX13_piece 32 = .ok (.ldc2_w 199, 3) := by decide +kernel
theorem dX13_piece_35 : decode cX13_piece 35 = .ok (.invokestatic 190, 3) := by decide +kernel
theorem dX13_piece_38 : decode cX13_piece 38 = .ok (.ifCond .ne 9, 3) := by decide +kernel
theorem dX13_piece_47 : decode cX13_piece 47 = .ok (.aload_n 0, 1) := by decide +kernel
theorem dX13_piece_48 : decode cX13_piece 48 = .ok (.getfield 13, 3) := by decide +kernel
theorem dX13_piece_51 : decode cX13_piece 51 = .ok (.iconst 2, 1) := by decide +kernel
theorem dX13_piece_52 : decode cX13_piece 52 = .ok (.iaload, 1) := by decide +kernel
theorem dX13_piece_53 : decode cX13_piece 53 = .ok (.istore 4, 2) := by decide +kernel
theorem dX13_piece_55 : decode cX13_piece 55 = .ok (.iload 4, 2) := by decide +kernel
theorem dX13_piece_57 : decode cX13_piece 57 = .ok (.bipush 10, 2) := by decide +kernel
theorem dX13_piece_59 : decode cX13_piece 59 = .ok (.if_icmp .ne 10, 3) := by decide +kernel
theorem dX13_piece_69 : decode cX13_piece 69 = .ok (.aload_n 0, 1) := by decide +kernel
theorem dX13_piece_70 : decode cX13_piece 70 = .ok (.getfield 13, 3) := by decide +kernel
theorem dX13_piece_73 : decode cX13_piece 73 = .ok (.bipush 78, 2) := by decide +kernel
theorem dX13_piece_75 : decode cX13_piece 75 = .ok (.iconst 3, 1) := by decide +kernel
theorem dX13_piece_76 : decode cX13_piece 76 = .ok (.iload 4, 2) := by decide +kernel
theorem dX13_piece_78 : decode cX13_piece 78 = .ok (.imul, 1) := by decide +kernel
theorem dX13_piece_79 : decode cX13_piece 79 = .ok (.iadd, 1) := by decide +kernel
theorem dX13_piece_80 : decode cX13_piece 80 = .ok (.iload_n 1, 1) := by decide +kernel
theorem dX13_piece_81 : decode cX13_piece 81 = .ok (.iastore, 1) := by decide +kernel
theorem dX13_piece_82 : decode cX13_piece 82 = .ok (.aload_n 0, 1) := by decide +kernel
theorem dX13_piece_83 : decode cX13_piece 83 = .ok (.getfield 13, 3) := by decide +kernel
theorem dX13_piece_86 : decode cX13_piece 86 = .ok (.bipush 78, 2) := by decide +kernel
theorem dX13_piece_88 : decode cX13_piece 88 = .ok (.iconst 3, 1) := by decide +kernel
theorem dX13_piece_89 : decode cX13_piece 89 = .ok (.iload 4, 2) := by decide +kernel
theorem dX13_piece_91 : decode cX13_piece 91 = .ok (.imul, 1) := by decide +kernel
theorem dX13_piece_92 : decode cX13_piece 92 = .ok (.iadd, 1) := by decide +kernel
theorem dX13_piece_93 : decode cX13_piece 93 = .ok (.iconst 1, 1) := by decide +kernel
theorem dX13_piece_94 : decode cX13_piece 94 = .ok (.iadd, 1) := by decide +kernel
theorem dX13_piece_95 : decode cX13_piece 95 = .ok (.iload_n 2, 1) := by decide +kernel
theorem dX13_piece_96 : decode cX13_piece 96 = .ok (.iastore, 1) := by decide +kernel
theorem dX13_piece_97 : decode cX13_piece 97 = .ok (.aload_n 0, 1) := by decide +kernel
theorem dX13_piece_98 : decode cX13_piece 98 = .ok (.getfield 13, 3) := by decide +kernel
theorem dX13_piece_101 : decode cX13_piece 101 = .ok (.bipush 78, 2) := by decide +kernel
theorem dX13_piece_103 : decode cX13_piece 103 = .ok (.iconst 3, 1) := by decide +kernel
theorem dX13_piece_104 : decode cX13_piece 104 = .ok (.iload 4, 2) := by decide +kernel
theorem dX13_piece_106 : decode cX13_piece 106 = .ok (.imul, 1) := by decide +kernel
theorem dX13_piece_107 : decode cX13_piece 107 = .ok (.iadd, 1) := by decide +kernel
theorem dX13_piece_108 : decode cX13_piece 108 = .ok (.iconst 2, 1) := by decide +kernel
theorem dX13_piece_109 : decode cX13_piece 109 = .ok (.iadd, 1) := by decide +kernel
theorem dX13_piece_110 : decode cX13_piece 110 = .ok (.iload_n 3, 1) := by decide +kernel
theorem dX13_piece_111 : decode cX13_piece 111 = .ok (.iastore, 1) := by decide +kernel
theorem dX13_piece_112 : decode cX13_piece 112 = .ok (.aload_n 0, 1) := by decide +kernel
theorem dX13_piece_113 : decode cX13_piece 113 = .ok (.getfield 13, 3) := by decide +kernel
theorem dX13_piece_116 : decode cX13_piece 116 = .ok (.iconst 2, 1) := by decide +kernel
theorem dX13_piece_117 : decode cX13_piece 117 = .ok (.dup2, 1) := by decide +kernel
theorem dX13_piece_118 : decode cX13_piece 118 = .ok (.iaload, 1) := by decide +kernel
theorem dX13_piece_119 : decode cX13_piece 119 = .ok (.iconst 1, 1) := by decide +kernel
theorem dX13_piece_120 : decode cX13_piece 120 = .ok (.iadd, 1) := by decide +kernel
theorem dX13_piece_121 : decode cX13_piece 121 = .ok (.iastore, 1) := by decide +kernel
theorem dX13_piece_122 : decode cX13_piece 122 = .ok (.aload_n 0, 1) := by decide +kernel
theorem dX13_piece_123 : decode cX13_piece 123 = .ok (.iload 4, 2) := by decide +kernel
theorem dX13_piece_125 : decode cX13_piece 125 = .ok (.invokevirtual 183, 3) := by decide +kernel
theorem dX13_piece_128 : decode cX13_piece 128 = .ok (.ireturn, 1) := by decide +kernel
theorem dX13_piece_62 : decode cX13_piece 62 = .ok (.aload_n 0, 1) := by decide +kernel
theorem dX13_piece_63 : decode cX13_piece 63 = .ok (.bipush (-5), 2) := by decide +kernel
theorem dX13_piece_65 : decode cX13_piece 65 = .ok (.invokevirtual 183, 3) := by decide +kernel
theorem dX13_piece_68 : decode cX13_piece 68 = .ok (.ireturn, 1) := by decide +kernel
set_option maxHeartbeats 4000000 in
set_option maxRecDepth 100000 in
theorem k_X13_piece (l : Launch) (D : va_G) (cy : Nat → ClassId) (ld ad : Nat → Nat) (am : Nat) (hD : mz_D ad am) (Fa : Nat → Int32) (Ga : Nat → Int64) (Ra : Nat → Nat → Int32) (Sa : Nat → Nat → Int64) (p1 : Int32) (p2 : Int32) (p3 : Int32) (hIF : mz_IF true Fa) (hIG : mz_IG Ga) (hIR : mz_IR [] true Ra) : Met l yX13_piece (wl yX13_piece cX13_piece 5 (some .int)) ({ frames := 4, cells := 0, slots := 0, locals := 210 }) (mz_p D cy ld ad am Fa Ga Ra Sa [.ref am, .int p1, .int p2, .int p3]) (mz_i D cy ad am (fun r F G R S => mz_IF true F ∧ mz_IG G ∧ mz_IR [] true R ∧ (∀ k : Nat, k ∉ ([0, 1] : List Nat) → F k = Fa k) ∧ (∀ k : Nat, k ∉ ([2, 3] : List Nat) → R k = Ra k) ∧ (∀ k : Nat, k ∉ ([] : List Nat) → G k = Ga k) ∧ (-5) ≤ r.toInt ∧ r.toInt ≤ 9)) 0 0 (mz_W ad am) := by
  refine mz_met (y := yX13_piece) (cc := cX13_piece) (maxL := 5) (ret := (some .int)) (av := [.ref am, .int p1, .int p2, .int p3]) _ (by decide) (Nat.le_of_ble_eq_true rfl) ?_
  intro p e s m args below meth c hx hb hr hml hts htl hown hlocks hK H locs hM hS ls hl
  have hown : s.vm.findClass RX13 = some m.cls := hown
  have hl : lv_has ls 5 [(0, .ref am), (1, .int p1), (2, .int p2), (3, .int p3)] := hl
  have hr_p1 := tk_rng p1
  have hr_p2 := tk_rng p2
  have hr_p3 := tk_rng p3
  refine lv_aload_n hx hb dX13_piece_0 rfl (lv_at hl 0 rfl) ?_
  refine lv_iconst (v := 0) hx hb dX13_piece_1 (by decide) ?_
  have hk_0 : (0 : Int32).toInt = 0 := by decide
  refine mz_putI (ty := .int) (x := 0) hx hb htl hown hK hD hM hS 0 (Nat.le_of_ble_eq_true rfl) rfl (htl _ mw_286) (fun _ h9 => h9) rfl (tyX13_ok 0 (by decide)) rfl rfl dX13_piece_2 (fun H locs F hM hS hf9 hj9 => ?_)
  have hIF := hIF.put hf9 hj9 (tk_rng _).1 (tk_rng _).2 (by decide)
  have hFF := mz_frp (K := [0, 1]) (Fa := Fa) hj9 (fun _ _ => rfl) (by decide)
  have hf2 := hf9
  refine lv_iload_n hx hb dX13_piece_5 rfl (lv_at hl 1 rfl) ?_
  obtain ⟨w3, e_w3, h_w3⟩ : ∃ z : Int64, p1.toInt64 = z ∧ z.toInt = p1.toInt := ⟨_, rfl, fl_w _⟩
  refine lv_i2l (v := w3) hx hb dX13_piece_6 e_w3 ?_
  refine lv_lconst (v := 1) hx hb dX13_piece_7 (by decide) ?_
  refine lv_ldc2 hx hb hown (htl _ mw_342) dX13_piece_8 ?_
  have hk_1 : (1 : Int64).toInt = 1 := by decide
  have hk_99 : (99 : Int64).toInt = 99 := by decide
  refine mz_Sj (As := [.long w3, .long 1, .long 99]) (rest := []) ⟨hx, hb, hml, hown, hts⟩ hK hM hS (k_X13_in l D cy ld ad am hD _ _ _ _ w3 1 99) ⟨callB_of 3 hts (wl_in mw_292) rfl rfl rfl (htl _ mw_5) (htl _ mw_290) hd_yX13_in ⟨(Nat.le_of_ble_eq_true rfl), (Nat.le_of_ble_eq_true rfl)⟩, htl _ mw_291⟩ rfl hl.1 rfl (Nat.le_of_ble_eq_true rfl) dX13_piece_11 ⟨(Nat.le_of_ble_eq_true rfl), (Nat.le_of_ble_eq_true rfl)⟩ (fun v4 H locs hpo hM hS => ?_)
  obtain ⟨hpo5, hpo6, hpo7, hpo8, hpo9, hpo10⟩ := hpo
  have hq_v4 := tk_rng v4
  refine lv_if_eq (tgt := 41) hx hb dX13_piece_14 (by decide) (fun c9 => ?_) (fun c9 => ?_)
  · have hc12 : v4.toInt = 0 := (fi_eq rfl (show (0 : Int32).toInt = 0 by decide)).mp c9
    refine lv_aload_n hx hb dX13_piece_41 rfl (lv_at hl 0 rfl) ?_
    refine lv_iconst (v := (-1)) hx hb dX13_piece_42 (by decide) ?_
    have hk_m1 : ((-1) : Int32).toInt = (-1) := by decide
    refine mz_Vi (As := [.int (-1)]) (rest := []) ⟨hx, hb, hml, hown, hts⟩ hK hM hS (k_X13_tell l D cy ld ad am hD _ _ _ _ (-1) hIF hIG hIR (by omega) (by omega)) ⟨callB_of 1 hts (wl_in mw_296) rfl rfl rfl (htl _ mw_5) (htl _ mw_293) hd_yX13_tell ⟨(Nat.le_of_ble_eq_true rfl), (Nat.le_of_ble_eq_true rfl)⟩, htl _ mw_294, htl _ mw_295⟩ rfl hl.1 rfl (Nat.le_of_ble_eq_true rfl) dX13_piece_43 ⟨(Nat.le_of_ble_eq_true rfl), (Nat.le_of_ble_eq_true rfl)⟩ (fun v13 H locs F G R S hpo hM hS => ?_)
    obtain ⟨hIF, hIG, hIR, hfr9, hrr9, hgr9, hpo14⟩ := hpo
    have hq_v13 := tk_rng v13
    have hFF := mz_fr (K := [0, 1]) (Fa := Fa) hfr9 hFF (by decide)
    have hRR := mz_fr (K := [2, 3]) (Fa := Ra) hrr9 (fun _ _ => rfl) (by decide)
    have hGG := mz_fr (K := []) (Fa := Ga) hgr9 (fun _ _ => rfl) (by decide)
    have hf2 := (hfr9 0 (by decide)).trans hf2
    exact mz_iret (v := v13) hx hb hr rfl hlocks ⟨hIF, hIG, hIR, hFF, hRR, hGG, (by omega), (by omega)⟩ hM hS dX13_piece_46
  · have hc12 : ¬ (v4.toInt = 0) := fun h9 => c9 ((fi_eq rfl (show (0 : Int32).toInt = 0 by decide)).mpr h9)
    refine lv_iload_n hx hb dX13_piece_17 rfl (lv_at hl 2 rfl) ?_
    obtain ⟨w16, e_w16, h_w16⟩ : ∃ z : Int64, p2.toInt64 = z ∧ z.toInt = p2.toInt := ⟨_, rfl, fl_w _⟩
    refine lv_i2l (v := w16) hx hb dX13_piece_18 e_w16 ?_
    refine lv_lconst (v := 0) hx hb dX13_piece_19 (by decide) ?_
    refine lv_ldc2 hx hb hown (htl _ mw_316) dX13_piece_20 ?_
    have hk_0 : (0 : Int64).toInt = 0 := by decide
    have hk_4 : (4 : Int64).toInt = 4 := by decide
    refine mz_Sj (As := [.long w16, .long 0, .long 4]) (rest := []) ⟨hx, hb, hml, hown, hts⟩ hK hM hS (k_X13_in l D cy ld ad am hD _ _ _ _ w16 0 4) ⟨callB_of 3 hts (wl_in mw_292) rfl rfl rfl (htl _ mw_5) (htl _ mw_290) hd_yX13_in ⟨(Nat.le_of_ble_eq_true rfl), (Nat.le_of_ble_eq_true rfl)⟩, htl _ mw_291⟩ rfl hl.1 rfl (Nat.le_of_ble_eq_true rfl) dX13_piece_23 ⟨(Nat.le_of_ble_eq_true rfl), (Nat.le_of_ble_eq_true rfl)⟩ (fun v17 H locs hpo hM hS => ?_)
    obtain ⟨hpo18, hpo19, hpo20, hpo21, hpo22, hpo23⟩ := hpo
    have hq_v17 := tk_rng v17
    refine lv_if_eq (tgt := 41) hx hb dX13_piece_26 (by decide) (fun c9 => ?_) (fun c9 => ?_)
    · have hc25 : v17.toInt = 0 := (fi_eq rfl (show (0 : Int32).toInt = 0 by decide)).mp c9
      refine lv_aload_n hx hb dX13_piece_41 rfl (lv_at hl 0 rfl) ?_
      refine lv_iconst (v := (-1)) hx hb dX13_piece_42 (by decide) ?_
      have hk_m1 : ((-1) : Int32).toInt = (-1) := by decide
      refine mz_Vi (As := [.int (-1)]) (rest := []) ⟨hx, hb, hml, hown, hts⟩ hK hM hS (k_X13_tell l D cy ld ad am hD _ _ _ _ (-1) hIF hIG hIR (by omega) (by omega)) ⟨callB_of 1 hts (wl_in mw_296) rfl rfl rfl (htl _ mw_5) (htl _ mw_293) hd_yX13_tell ⟨(Nat.le_of_ble_eq_true rfl), (Nat.le_of_ble_eq_true rfl)⟩, htl _ mw_294, htl _ mw_295⟩ rfl hl.1 rfl (Nat.le_of_ble_eq_true rfl) dX13_piece_43 ⟨(Nat.le_of_ble_eq_true rfl), (Nat.le_of_ble_eq_true rfl)⟩ (fun v26 H locs F G R S hpo hM hS => ?_)
      obtain ⟨hIF, hIG, hIR, hfr9, hrr9, hgr9, hpo27⟩ := hpo
      have hq_v26 := tk_rng v26
      have hFF := mz_fr (K := [0, 1]) (Fa := Fa) hfr9 hFF (by decide)
      have hRR := mz_fr (K := [2, 3]) (Fa := Ra) hrr9 (fun _ _ => rfl) (by decide)
      have hGG := mz_fr (K := []) (Fa := Ga) hgr9 (fun _ _ => rfl) (by decide)
      have hf2 := (hfr9 0 (by decide)).trans hf2
      exact mz_iret (v := v26) hx hb hr rfl hlocks ⟨hIF, hIG, hIR, hFF, hRR, hGG, (by omega), (by omega)⟩ hM hS dX13_piece_46
    · have hc25 : ¬ (v17.toInt = 0) := fun h9 => c9 ((fi_eq rfl (show (0 : Int32).toInt = 0 by decide)).mpr h9)
      refine lv_iload_n hx hb dX13_piece_29 rfl (lv_at hl 3 rfl) ?_
      obtain ⟨w29, e_w29, h_w29⟩ : ∃ z : Int64, p3.toInt64 = z ∧ z.toInt = p3.toInt := ⟨_, rfl, fl_w _⟩
      refine lv_i2l (v := w29) hx hb dX13_piece_30 e_w29 ?_
      refine lv_lconst (v := 1) hx hb dX13_piece_31 (by decide) ?_
      refine lv_ldc2 hx hb hown (htl _ mw_288) dX13_piece_32 ?_
      have hk_1 : (1 : Int64).toInt = 1 := by decide
      have hk_9 : (9 : Int64).toInt = 9 := by decide
      refine mz_Sj (As := [.long w29, .long 1, .long 9]) (rest := []) ⟨hx, hb, hml, hown, hts⟩ hK hM hS (k_X13_in l D cy ld ad am hD _ _ _ _ w29 1 9) ⟨callB_of 3 hts (wl_in mw_292) rfl rfl rfl (htl _ mw_5) (htl _ mw_290) hd_yX13_in ⟨(Nat.le_of_ble_eq_true rfl), (Nat.le_of_ble_eq_true rfl)⟩, htl _ mw_291⟩ rfl hl.1 rfl (Nat.le_of_ble_eq_true rfl) dX13_piece_35 ⟨(Nat.le_of_ble_eq_true rfl), (Nat.le_of_ble_eq_true rfl)⟩ (fun v30 H locs hpo hM hS => ?_)
      obtain ⟨hpo31, hpo32, hpo33, hpo34, hpo35, hpo36⟩ := hpo
      have hq_v30 := tk_rng v30
      refine lv_if_ne (tgt := 47) hx hb dX13_piece_38 (by decide) (fun c9 => ?_) (fun c9 => ?_)
      · have hc38 : ¬ (v30.toInt = 0) := fun h9 => c9 ((fi_eq rfl (show (0 : Int32).toInt = 0 by decide)).mpr h9)
        refine lv_aload_n hx hb dX13_piece_47 rfl (lv_at hl 0 rfl) ?_
        refine mz_getR hx hb htl hown hK hM 3 (Nat.le_of_ble_eq_true rfl) (Nat.le_of_ble_eq_true rfl) (htl _ mw_188) (fun _ h9 => h9) dX13_piece_48 ?_
        refine lv_iconst (v := 2) hx hb dX13_piece_51 (by decide) ?_
        refine mz_iald hx hb hK hM 3 (Nat.le_of_ble_eq_true rfl) rfl (nn := 5560) rfl (I := 2) (by decide) (by decide) (by decide) dX13_piece_52 (fun v40 hf39 => ?_)
        have hf39 : Ra 3 2 = v40 := hf39
        have hq_v40 := tk_rng v40
        have hr_v40 : 0 ≤ v40.toInt ∧ v40.toInt ≤ 10 := by have h9 := mz_r3c 2 (hIR.at 3) hf39 (by decide); unfold mE at h9; omega
        refine lv_istore (lv' := [(4, .int v40), (0, .ref am), (1, .int p1), (2, .int p2), (3, .int p3)]) hx hb dX13_piece_53 hl (by decide) rfl (fun ls hl => ?_)
        refine lv_iload hx hb dX13_piece_55 (lv_at hl 0 rfl) ?_
        refine lv_bipush (v := 10) hx hb dX13_piece_57 (by decide) ?_
        refine lv_icmp_ne (tgt := 69) hx hb dX13_piece_59 (by decide) (fun c9 => ?_) (fun c9 => ?_)
        · have hc41 : ¬ (v40.toInt = 10) := fun h9 => c9 ((fi_eq rfl (show (10 : Int32).toInt = 10 by decide)).mpr h9)
          refine lv_aload_n hx hb dX13_piece_69 rfl (lv_at hl 1 rfl) ?_
          refine mz_getR hx hb htl hown hK hM 3 (Nat.le_of_ble_eq_true rfl) (Nat.le_of_ble_eq_true rfl) (htl _ mw_188) (fun _ h9 => h9) dX13_piece_70 ?_
          refine lv_bipush (v := 78) hx hb dX13_piece_73 (by decide) ?_
          refine lv_iconst (v := 3) hx hb dX13_piece_75 (by decide) ?_
          refine lv_iload hx hb dX13_piece_76 (lv_at hl 0 rfl) ?_
          refine lv_imul hx hb dX13_piece_78 ?_
          refine tk_mul (show (3 : Int32).toInt = 3 by decide) rfl (by omega) (by omega) (fun v42 h_v42 => ?_)
          refine lv_iadd hx hb dX13_piece_79 ?_
          refine tk_add (show (78 : Int32).toInt = 78 by decide) rfl (by omega) (by omega) (fun v43 h_v43 => ?_)
          refine lv_iload_n hx hb dX13_piece_80 rfl (lv_at hl 2 rfl) ?_
          refine mz_iast (x := p1) hx hb hK hD hM hS 3 (Nat.le_of_ble_eq_true rfl) rfl (nn := 5560) rfl rfl (by omega) (by omega) dX13_piece_81 (fun H locs R hM hS hw9 hj9 => ?_)
          have hIR := hIR.put hw9 hj9 (mz_r3 (hIR.at 3) (I := v43.toInt) rfl (by omega) (by omega) (fun h9 => by first | (cases h9; done) | omega) (by unfold mE; omega))
          have hRR := mz_frp (K := [2, 3]) (Fa := Ra) hj9 (fun _ _ => rfl) (by decide)
          have hf39 : R 3 2 = _ := (congrFun hw9 2).trans ((pk_un (fun h9 => by have h8 := tk_nat (i := v43) rfl (by omega); omega)).trans hf39)
          refine lv_aload_n hx hb dX13_piece_82 rfl (lv_at hl 1 rfl) ?_
          refine mz_getR hx hb htl hown hK hM 3 (Nat.le_of_ble_eq_true rfl) (Nat.le_of_ble_eq_true rfl) (htl _ mw_188) (fun _ h9 => h9) dX13_piece_83 ?_
          refine lv_bipush (v := 78) hx hb dX13_piece_86 (by decide) ?_
          refine lv_iconst (v := 3) hx hb dX13_piece_88 (by decide) ?_
          refine lv_iload hx hb dX13_piece_89 (lv_at hl 0 rfl) ?_
          refine lv_imul hx hb dX13_piece_91 ?_
          refine tk_mul (show (3 : Int32).toInt = 3 by decide) rfl (by omega) (by omega) (fun v45 h_v45 => ?_)
          refine lv_iadd hx hb dX13_piece_92 ?_
          refine tk_add (show (78 : Int32).toInt = 78 by decide) rfl (by omega) (by omega) (fun v46 h_v46 => ?_)
          refine lv_iconst (v := 1) hx hb dX13_piece_93 (by decide) ?_
          refine lv_iadd hx hb dX13_piece_94 ?_
          refine tk_add rfl (show (1 : Int32).toInt = 1 by decide) (by omega) (by omega) (fun v47 h_v47 => ?_)
          refine lv_iload_n hx hb dX13_piece_95 rfl (lv_at hl 3 rfl) ?_
          refine mz_iast (x := p2) hx hb hK hD hM hS 3 (Nat.le_of_ble_eq_true rfl) rfl (nn := 5560) rfl rfl (by omega) (by omega) dX13_piece_96 (fun H locs R hM hS hw9 hj9 => ?_)
          have hIR := hIR.put hw9 hj9 (mz_r3 (hIR.at 3) (I := v47.toInt) rfl (by omega) (by omega) (fun h9 => by first | (cases h9; done) | omega) (by unfold mE; omega))
          have hRR := mz_frp (K := [2, 3]) (Fa := Ra) hj9 hRR (by decide)
          have hf39 : R 3 2 = _ := (congrFun hw9 2).trans ((pk_un (fun h9 => by have h8 := tk_nat (i := v47) rfl (by omega); omega)).trans hf39)
          refine lv_aload_n hx hb dX13_piece_97 rfl (lv_at hl 1 rfl) ?_
          refine mz_getR hx hb htl hown hK hM 3 (Nat.le_of_ble_eq_true rfl) (Nat.le_of_ble_eq_true rfl) (htl _ mw_188) (fun _ h9 => h9) dX13_piece_98 ?_
          refine lv_bipush (v := 78) hx hb dX13_piece_101 (by decide) ?_
          refine lv_iconst (v := 3) hx hb dX13_piece_103 (by decide) ?_
          refine lv_iload hx hb dX13_piece_104 (lv_at hl 0 rfl) ?_
          refine lv_imul hx hb dX13_piece_106 ?_
          refine tk_mul (show (3 : Int32).toInt = 3 by decide) rfl (by omega) (by omega) (fun v49 h_v49 => ?_)
          refine lv_iadd hx hb dX13_piece_107 ?_
          refine tk_add (show (78 : Int32).toInt = 78 by decide) rfl (by omega) (by omega) (fun v50 h_v50 => ?_)
          refine lv_iconst (v := 2) hx hb dX13_piece_108 (by decide) ?_
          refine lv_iadd hx hb dX13_piece_109 ?_
          refine tk_add rfl (show (2 : Int32).toInt = 2 by decide) (by omega) (by omega) (fun v51 h_v51 => ?_)
          refine lv_iload_n hx hb dX13_piece_110 rfl (lv_at hl 4 rfl) ?_
          refine mz_iast (x := p3) hx hb hK hD hM hS 3 (Nat.le_of_ble_eq_true rfl) rfl (nn := 5560) rfl rfl (by omega) (by omega) dX13_piece_111 (fun H locs R hM hS hw9 hj9 => ?_)
          have hIR := hIR.put hw9 hj9 (mz_r3 (hIR.at 3) (I := v51.toInt) rfl (by omega) (by omega) (fun h9 => by first | (cases h9; done) | omega) (by unfold mE; omega))
          have hRR := mz_frp (K := [2, 3]) (Fa := Ra) hj9 hRR (by decide)
          have hf39 : R 3 2 = _ := (congrFun hw9 2).trans ((pk_un (fun h9 => by have h8 := tk_nat (i := v51) rfl (by omega); omega)).trans hf39)
          refine lv_aload_n hx hb dX13_piece_112 rfl (lv_at hl 1 rfl) ?_
          refine mz_getR hx hb htl hown hK hM 3 (Nat.le_of_ble_eq_true rfl) (Nat.le_of_ble_eq_true rfl) (htl _ mw_188) (fun _ h9 => h9) dX13_piece_113 ?_
          refine lv_iconst (v := 2) hx hb dX13_piece_116 (by decide) ?_
          refine lv_dup2_11 hx hb dX13_piece_117 rfl rfl ?_
          refine mz_iald hx hb hK hM 3 (Nat.le_of_ble_eq_true rfl) rfl (nn := 5560) rfl (I := 2) (by decide) (by decide) (by decide) dX13_piece_118 (fun v9 e9 => ?_)
          refine fx_ti (v := v40) (e9.symm.trans (show R 3 (2 : Int32).toNatClampNeg = _ from hf39)) ?_
          refine lv_iconst (v := 1) hx hb dX13_piece_119 (by decide) ?_
          refine lv_iadd hx hb dX13_piece_120 ?_
          refine tk_add rfl (show (1 : Int32).toInt = 1 by decide) (by omega) (by omega) (fun v53 h_v53 => ?_)
          have hk_2 : (2 : Int32).toInt = 2 := by decide
          refine mz_iast (x := v53) hx hb hK hD hM hS 3 (Nat.le_of_ble_eq_true rfl) rfl (nn := 5560) rfl (I := 2) (by decide) (by decide) (by decide) dX13_piece_121 (fun H locs R hM hS hw9 hj9 => ?_)
          have hIR := hIR.put hw9 hj9 (mz_r3 (hIR.at 3) (I := 2) (by decide) (by omega) (by omega) (fun h9 => by first | (cases h9; done) | omega) (by unfold mE; omega))
          have hRR := mz_frp (K := [2, 3]) (Fa := Ra) hj9 hRR (by decide)
          have hf55 : R 3 2 = v53 := (congrFun hw9 2).trans pk_us
          refine lv_aload_n hx hb dX13_piece_122 rfl (lv_at hl 1 rfl) ?_
          refine lv_iload hx hb dX13_piece_123 (lv_at hl 0 rfl) ?_
          refine mz_Vi (As := [.int v40]) (rest := []) ⟨hx, hb, hml, hown, hts⟩ hK hM hS (k_X13_tell l D cy ld ad am hD _ _ _ _ v40 hIF hIG hIR (by omega) (by omega)) ⟨callB_of 1 hts (wl_in mw_296) rfl rfl rfl (htl _ mw_5) (htl _ mw_293) hd_yX13_tell ⟨(Nat.le_of_ble_eq_true rfl), (Nat.le_of_ble_eq_true rfl)⟩, htl _ mw_294, htl _ mw_295⟩ rfl hl.1 rfl (Nat.le_of_ble_eq_true rfl) dX13_piece_125 ⟨(Nat.le_of_ble_eq_true rfl), (Nat.le_of_ble_eq_true rfl)⟩ (fun v56 H locs F G R S hpo hM hS => ?_)
          obtain ⟨hIF, hIG, hIR, hfr9, hrr9, hgr9, hpo57⟩ := hpo
          have hq_v56 := tk_rng v56
          have hFF := mz_fr (K := [0, 1]) (Fa := Fa) hfr9 hFF (by decide)
          have hRR := mz_fr (K := [2, 3]) (Fa := Ra) hrr9 hRR (by decide)
          have hGG := mz_fr (K := []) (Fa := Ga) hgr9 (fun _ _ => rfl) (by decide)
          have hf2 := (hfr9 0 (by decide)).trans hf2
          have hf55 : R 3 2 = _ := (congrFun (hrr9 3 (by decide)) 2).trans hf55
          exact mz_iret (v := v56) hx hb hr rfl hlocks ⟨hIF, hIG, hIR, hFF, hRR, hGG, (by omega), (by omega)⟩ hM hS dX13_piece_128
        · have hc41 : v40.toInt = 10 := (fi_eq rfl (show (10 : Int32).toInt = 10 by decide)).mp c9
          refine lv_aload_n hx hb dX13_piece_62 rfl (lv_at hl 1 rfl) ?_
          refine lv_bipush (v := (-5)) hx hb dX13_piece_63 (by decide) ?_
          have hk_m5 : ((-5) : Int32).toInt = (-5) := by decide
          refine mz_Vi (As := [.int (-5)]) (rest := []) ⟨hx, hb, hml, hown, hts⟩ hK hM hS (k_X13_tell l D cy ld ad am hD _ _ _ _ (-5) hIF hIG hIR (by omega) (by omega)) ⟨callB_of 1 hts (wl_in mw_296) rfl rfl rfl (htl _ mw_5) (htl _ mw_293) hd_yX13_tell ⟨(Nat.le_of_ble_eq_true rfl), (Nat.le_of_ble_eq_true rfl)⟩, htl _ mw_294, htl _ mw_295⟩ rfl hl.1 rfl (Nat.le_of_ble_eq_true rfl) dX13_piece_65 ⟨(Nat.le_of_ble_eq_true rfl), (Nat.le_of_ble_eq_true rfl)⟩ (fun v59 H locs F G R S hpo hM hS => ?_)
          obtain ⟨hIF, hIG, hIR, hfr9, hrr9, hgr9, hpo60⟩ := hpo
          have hq_v59 := tk_rng v59
          have hFF := mz_fr (K := [0, 1]) (Fa := Fa) hfr9 hFF (by decide)
          have hRR := mz_fr (K := [2, 3]) (Fa := Ra) hrr9 (fun _ _ => rfl) (by decide)
          have hGG := mz_fr (K := []) (Fa := Ga) hgr9 (fun _ _ => rfl) (by decide)
          have hf2 := (hfr9 0 (by decide)).trans hf2
          have hf39 : R 3 2 = _ := (congrFun (hrr9 3 (by decide)) 2).trans hf39
          exact mz_iret (v := v59) hx hb hr rfl hlocks ⟨hIF, hIG, hIR, hFF, hRR, hGG, (by omega), (by omega)⟩ hM hS dX13_piece_68
      · have hc38 : v30.toInt = 0 := (fi_eq rfl (show (0 : Int32).toInt = 0 by decide)).mp c9
        refine lv_aload_n hx hb dX13_piece_41 rfl (lv_at hl 0 rfl) ?_
        refine lv_iconst (v := (-1)) hx hb dX13_piece_42 (by decide) ?_
        have hk_m1 : ((-1) : Int32).toInt = (-1) := by decide
        refine mz_Vi (As := [.int (-1)]) (rest := []) ⟨hx, hb, hml, hown, hts⟩ hK hM hS (k_X13_tell l D cy ld ad am hD _ _ _ _ (-1) hIF hIG hIR (by omega) (by omega)) ⟨callB_of 1 hts (wl_in mw_296) rfl rfl rfl (htl _ mw_5) (htl _ mw_293) hd_yX13_tell ⟨(Nat.le_of_ble_eq_true rfl), (Nat.le_of_ble_eq_true rfl)⟩, htl _ mw_294, htl _ mw_295⟩ rfl hl.1 rfl (Nat.le_of_ble_eq_true rfl) dX13_piece_43 ⟨(Nat.le_of_ble_eq_true rfl), (Nat.le_of_ble_eq_true rfl)⟩ (fun v62 H locs F G R S hpo hM hS => ?_)
        obtain ⟨hIF, hIG, hIR, hfr9, hrr9, hgr9, hpo63⟩ := hpo
        have hq_v62 := tk_rng v62
        have hFF := mz_fr (K := [0, 1]) (Fa := Fa) hfr9 hFF (by decide)
        have hRR := mz_fr (K := [2, 3]) (Fa := Ra) hrr9 (fun _ _ => rfl) (by decide)
        have hGG := mz_fr (K := []) (Fa := Ga) hgr9 (fun _ _ => rfl) (by decide)
        have hf2 := (hfr9 0 (by decide)).trans hf2
        exact mz_iret (v := v62) hx hb hr rfl hlocks ⟨hIF, hIG, hIR, hFF, hRR, hGG, (by omega), (by omega)⟩ hM hS dX13_piece_46
