section
theorem dX13_four_0 : decode cX13_four 0 = .ok (.bipush 24, 2) := by decide +kernel
theorem dX13_four_2 : decode cX13_four 2 = .ok (.istore_n 2, 1) := by decide +kernel
theorem dX13_four_3 : decode cX13_four 3 = .ok (.iload_n 2, 1) := by decide +kernel
theorem dX13_four_4 : decode cX13_four 4 = .ok (.ifCond .lt 35, 3) := by decide +kernel
theorem dX13_four_7 : decode cX13_four 7 = .ok (.aload_n 0, 1) := by decide +kernel
theorem dX13_four_8 : decode cX13_four 8 = .ok (.getfield 35, 3) := by decide +kernel
theorem dX13_four_11 : decode cX13_four 11 = .ok (.aload_n 0, 1) := by decide +kernel
theorem dX13_four_12 : decode cX13_four 12 = .ok (.getfield 224, 3) := by decide +kernel
theorem dX13_four_15 : decode cX13_four 15 = .ok (.iload_n 1, 1) := by decide +kernel
theorem dX13_four_16 : decode cX13_four 16 = .ok (.iload_n 2, 1) := by decide +kernel
theorem dX13_four_17 : decode cX13_four 17 = .ok (.ishr, 1) := by decide +kernel
theorem dX13_four_18 : decode cX13_four 18 = .ok (.sipush 255, 3) := by decide +kernel
theorem dX13_four_21 : decode cX13_four 21 = .ok (.iand, 1) := by decide +kernel
theorem dX13_four_22 : decode cX13_four 22 = .ok (.iastore, 1) := by decide +kernel
theorem dX13_four_23 : decode cX13_four 23 = .ok (.aload_n 0, 1) := by decide +kernel
theorem dX13_four_24 : decode cX13_four 24 = .ok (.dup, 1) := by decide +kernel
theorem dX13_four_25 : decode cX13_four 25 = .ok (.getfield 224, 3) := by decide +kernel
theorem dX13_four_28 : decode cX13_four 28 = .ok (.iconst 1, 1) := by decide +kernel
theorem dX13_four_29 : decode cX13_four 29 = .ok (.iadd, 1) := by decide +kernel
theorem dX13_four_30 : decode cX13_four 30 = .ok (.putfield 224, 3) := by decide +kernel
theorem dX13_four_33 : decode cX13_four 33 = .ok (.iinc 2 (-8), 3) := by decide +kernel
theorem dX13_four_36 : decode cX13_four 36 = .ok (.goto (-33), 3) := by decide +kernel
theorem dX13_four_39 : decode cX13_four 39 = .ok (.return_, 1) := by decide +kernel
end
section
theorem hd_yX13_four : yX13_four.cls ≠ "java/lang/invoke/MethodHandle" ∧ yX13_four.cls ≠ "java/lang/invoke/VarHandle" ∧ (parseMethodDescriptor yX13_four.desc).map (fun d => d.parameters.length) = some 1 := by decide +kernel
theorem dX13_feed_0 : decode cX13_feed 0 = .ok (.aload_n 0, 1) := by decide +kernel
theorem dX13_feed_1 : decode cX13_feed 1 = .ok (.iconst 0, 1) := by decide +kernel
theorem dX13_feed_2 : decode cX13_feed 2 = .ok (.putfield 170, 3) := by decide +kernel
theorem dX13_feed_5 : decode cX13_feed 5 = .ok (.aload_n 0, 1) := by decide +kernel
theorem dX13_feed_6 : decode cX13_feed 6 = .ok (.getfield 224, 3) := by decide +kernel
theorem dX13_feed_9 : decode cX13_feed 9 = .ok (.bipush 20, 2) := by decide +kernel
theorem dX13_feed_11 : decode cX13_feed 11 = .ok (.iadd, 1) := by decide +kernel
theorem dX13_feed_12 : decode cX13_feed 12 = .ok (.sipush 400, 3) := by decide +kernel
theorem dX13_feed_15 : decode cX13_feed 15 = .ok (.if_icmp .le 5, 3) := by decide +kernel
theorem dX13_feed_20 : decode cX13_feed 20 = .ok (.aload_n 0, 1) := by decide +kernel
theorem dX13_feed_21 : decode cX13_feed 21 = .ok (.iload_n 1, 1) := by decide +kernel
theorem dX13_feed_22 : decode cX13_feed 22 = .ok (.invokevirtual 230, 3) := by decide +kernel
theorem dX13_feed_25 : decode cX13_feed 25 = .ok (.aload_n 0, 1) := by decide +kernel
theorem dX13_feed_26 : decode cX13_feed 26 = .ok (.iload_n 2, 1) := by decide +kernel
theorem dX13_feed_27 : decode cX13_feed 27 = .ok (.invokevirtual 230, 3) := by decide +kernel
theorem dX13_feed_30 : decode cX13_feed 30 = .ok (.aload_n 0, 1) := by decide +kernel
theorem dX13_feed_31 : decode cX13_feed 31 = .ok (.iload_n 3, 1) := by decide +kernel
theorem dX13_feed_32 : decode cX13_feed 32 = .ok (.invokevirtual 230, 3) := by decide +kernel
theorem dX13_feed_35 : decode cX13_feed 35 = .ok (.aload_n 0, 1) := by decide +kernel
theorem dX13_feed_36 : decode cX13_feed 36 = .ok (.iload 4, 2) := by decide +kernel
theorem dX13_feed_38 : decode cX13_feed 38 = .ok (.invokevirtual 230, 3) := by decide +kernel
theorem dX13_feed_41 : decode cX13_feed 41 = .ok (.aload_n 0, 1) := by decide +kernel
theorem dX13_feed_42 : decode cX13_feed 42 = .ok (.iload 5, 2) := by decide +kernel
theorem dX13_feed_44 : decode cX13_feed 44 = .ok (.invokevirtual 230, 3) := by decide +kernel
theorem dX13_feed_47 : decode cX13_feed 47 = .ok (.aload_n 0, 1) := by decide +kernel
theorem dX13_feed_48 : decode cX13_feed 48 = .ok (.getfield 224, 3) := by decide +kernel
theorem dX13_feed_51 : decode cX13_feed 51 = .ok (.ireturn, 1) := by decide +kernel
theorem dX13_feed_18 : decode cX13_feed 18 = .ok (.iconst (-1), 1) := by decide +kernel
theorem dX13_feed_19 : decode cX13_feed 19 = .ok (.ireturn, 1) := by decide +kernel
end
section
theorem dX13_end_0 : decode cX13_end 0 = .ok (.aload_n 0, 1) := by decide +kernel
theorem dX13_end_1 : decode cX13_end 1 = .ok (.iconst 0, 1) := by decide +kernel
theorem dX13_end_2 : decode cX13_end 2 = .ok (.putfield 170, 3) := by decide +kernel
theorem dX13_end_5 : decode cX13_end 5 = .ok (.iload_n 1, 1) := by decide +kernel
theorem dX13_end_6 : decode cX13_end 6 = .ok (.ifCond .lt 11, 3) := by decide +kernel
theorem dX13_end_17 : decode cX13_end 17 = .ok (.iconst (-1), 1) := by decide +kernel
theorem dX13_end_18 : decode cX13_end 18 = .ok (.ireturn, 1) := by decide +kernel
theorem dX13_end_9 : decode cX13_end 9 = .ok (.iload_n 1, 1) := by decide +kernel
theorem dX13_end_10 : decode cX13_end 10 = .ok (.aload_n 0, 1) := by decide +kernel
theorem dX13_end_11 : decode cX13_end 11 = .ok (.getfield 224, 3) := by decide +kernel
theorem dX13_end_14 : decode cX13_end 14 = .ok (.if_icmp .le 5, 3) := by decide +kernel
theorem dX13_end_19 : decode cX13_end 19 = .ok (.aload_n 0, 1) := by decide +kernel
theorem dX13_end_20 : decode cX13_end 20 = .ok (.iload_n 1, 1) := by decide +kernel
theorem dX13_end_21 : decode cX13_end 21 = .ok (.putfield 224, 3) := by decide +kernel
theorem dX13_end_24 : decode cX13_end 24 = .ok (.iload_n 1, 1) := by decide +kernel
theorem dX13_end_25 : decode cX13_end 25 = .ok (.ireturn, 1) := by decide +kernel
end
section
theorem dX13_isSmall_0 : decode cX13_isSmall 0 = .ok (.iload_n 0, 1) := by decide +kernel
theorem dX13_isSmall_1 : decode cX13_isSmall 1 = .ok (.bipush 97, 2) := by decide +kernel
theorem dX13_isSmall_3 : decode cX13_isSmall 3 = .ok (.if_icmp .lt 13, 3) := by decide +kernel
theorem dX13_isSmall_16 : decode cX13_isSmall 16 = .ok (.iconst 0, 1) := by decide +kernel
theorem dX13_isSmall_17 : decode cX13_isSmall 17 = .ok (.ireturn, 1) := by decide +kernel
theorem dX13_isSmall_6 : decode cX13_isSmall 6 = .ok (.iload_n 0, 1) := by decide +kernel
theorem dX13_isSmall_7 : decode cX13_isSmall 7 = .ok (.bipush 122, 2) := by decide +kernel
theorem dX13_isSmall_9 : decode cX13_isSmall 9 = .ok (.if_icmp .gt 7, 3) := by decide +kernel
theorem dX13_isSmall_12 : decode cX13_isSmall 12 = .ok (.iconst 1, 1) := by decide +kernel
theorem dX13_isSmall_13 : decode cX13_isSmall 13 = .ok (.goto 4, 3) := by decide +kernel
set_option maxHeartbeats 4000000 in
set_option maxRecDepth 100000 in
theorem k_X13_isSmall (l : Launch) (D : va_G) (cy : Nat → ClassId) (ld ad : Nat → Nat) (am : Nat) (hD : mz_D ad am) (Fa : Nat → Int32) (Ga : Nat → Int64) (Ra : Nat → Nat → Int32) (Sa : Nat → Nat → Int64) (p0 : Int32) : Met l yX13_isSmall (wl yX13_isSmall cX13_isSmall 1 (some .boolean)) ({ frames := 3, cells := 0, slots := 0, locals := 140 }) (mz_p D cy ld ad am Fa Ga Ra Sa [.int p0]) (mz_j D cy ad am Fa Ga Ra Sa (fun r => (1 ≤ r.toInt → 97 ≤ p0.toInt ∧ p0.toInt ≤ 122) ∧ (r.toInt ≤ 0 → 97 ≤ p0.toInt → 123 ≤ p0.toInt) ∧ 0 ≤ r.toInt ∧ r.toInt ≤ 1 ∧ 0 ≤ r.toInt ∧ r.toInt ≤ 1)) 0 0 (mz_W ad am) := by
  refine mz_met (y := yX13_isSmall) (cc := cX13_isSmall) (maxL := 1) (ret := (some .boolean)) (av := [.int p0]) _ (by decide) (Nat.le_of_ble_eq_true rfl) ?_
  intro p e s m args below meth c hx hb hr hml hts htl hown hlocks hK H locs hM hS ls hl
  have hown : s.vm.findClass RX13 = some m.cls := hown
  have hl : lv_has ls 1 [(0, .int p0)] := hl
  have hr_p0 := tk_rng p0
  refine lv_iload_n hx hb dX13_isSmall_0 rfl (lv_at hl 0 rfl) ?_
  refine lv_bipush (v := 97) hx hb dX13_isSmall_1 (by decide) ?_
  refine lv_icmp_lt (tgt := 16) hx hb dX13_isSmall_3 (by decide) (fun c9 => ?_) (fun c9 => ?_)
  · have hc1 : p0.toInt < 97 := (fi_lt rfl (show (97 : Int32).toInt = 97 by decide)).mp c9
    refine lv_iconst (v := 0) hx hb dX13_isSmall_16 (by decide) ?_
    have hk_0 : (0 : Int32).toInt = 0 := by decide
    exact mz_jret (v := 0) hx hb hr rfl hlocks ⟨(by omega), (by omega), (by omega), (by omega), (by omega), (by omega)⟩ hM hS dX13_isSmall_17
  · have hc1 : ¬ (p0.toInt < 97) := fun h9 => c9 ((fi_lt rfl (show (97 : Int32).toInt = 97 by decide)).mpr h9)
    refine lv_iload_n hx hb dX13_isSmall_6 rfl (lv_at hl 0 rfl) ?_
    refine lv_bipush (v := 122) hx hb dX13_isSmall_7 (by decide) ?_
    refine lv_icmp_gt (tgt := 16) hx hb dX13_isSmall_9 (by decide) (fun c9 => ?_) (fun c9 => ?_)
    · have hc2 : 122 < p0.toInt := (fi_lt (show (122 : Int32).toInt = 122 by decide) rfl).mp c9
      refine lv_iconst (v := 0) hx hb dX13_isSmall_16 (by decide) ?_
      have hk_0 : (0 : Int32).toInt = 0 := by decide
      exact mz_jret (v := 0) hx hb hr rfl hlocks ⟨(by omega), (by omega), (by omega), (by omega), (by omega), (by omega)⟩ hM hS dX13_isSmall_17
    · have hc2 : ¬ (122 < p0.toInt) := fun h9 => c9 ((fi_lt (show (122 : Int32).toInt = 122 by decide) rfl).mpr h9)
      refine lv_iconst (v := 1) hx hb dX13_isSmall_12 (by decide) ?_
      refine lv_goto (tgt := 17) hx hb dX13_isSmall_13 (by decide) ?_
      have hk_1 : (1 : Int32).toInt = 1 := by decide
      exact mz_jret (v := 1) hx hb hr rfl hlocks ⟨(by omega), (by omega), (by omega), (by omega), (by omega), (by omega)⟩ hM hS dX13_isSmall_17
end
section
theorem dX13_isDigit_0 : decode cX13_isDigit 0 = .ok (.iload_n 0, 1) := by decide +kernel
theorem dX13_isDigit_1 : decode cX13_isDigit 1 = .ok (.bipush 48, 2) := by decide +kernel
theorem dX13_isDigit_3 : decode cX13_isDigit 3 = .ok (.if_icmp .lt 13, 3) := by decide +kernel
theorem dX13_isDigit_16 : decode cX13_isDigit 16 = .ok (.iconst 0, 1) := by decide +kernel
theorem dX13_isDigit_17 : decode cX13_isDigit 17 = .ok (.ireturn, 1) := by decide +kernel
theorem dX13_isDigit_6 : decode cX13_isDigit 6 = .ok (.iload_n 0, 1) := by decide +kernel
theorem dX13_isDigit_7 : decode cX13_isDigit 7 = .ok (.bipush 57, 2) := by decide +kernel
theorem dX13_isDigit_9 : decode cX13_isDigit 9 = .ok (.if_icmp .gt 7, 3) := by decide +kernel
theorem dX13_isDigit_12 : decode cX13_isDigit 12 = .ok (.iconst 1, 1) := by decide +kernel
theorem dX13_isDigit_13 : decode cX13_isDigit 13 = .ok (.goto 4, 3) := by decide +kernel
set_option maxHeartbeats 4000000 in
set_option maxRecDepth 100000 in
theorem k_X13_isDigit (l : Launch) (D : va_G) (cy : Nat → ClassId) (ld ad : Nat → Nat) (am : Nat) (hD : mz_D ad am) (Fa : Nat → Int32) (Ga : Nat → Int64) (Ra : Nat → Nat → Int32) (Sa : Nat → Nat → Int64) (p0 : Int32) : Met l yX13_isDigit (wl yX13_isDigit cX13_isDigit 1 (some .boolean)) ({ frames := 3, cells := 0, slots := 0, locals := 140 }) (mz_p D cy ld ad am Fa Ga Ra Sa [.int p0]) (mz_j D cy ad am Fa Ga Ra Sa (fun r => (1 ≤ r.toInt → 48 ≤ p0.toInt ∧ p0.toInt ≤ 57) ∧ (r.toInt ≤ 0 → 48 ≤ p0.toInt → 58 ≤ p0.toInt) ∧ 0 ≤ r.toInt ∧ r.toInt ≤ 1 ∧ 0 ≤ r.toInt ∧ r.toInt ≤ 1)) 0 0 (mz_W ad am) := by
  refine mz_met (y := yX13_isDigit) (cc := cX13_isDigit) (maxL := 1) (ret := (some .boolean)) (av := [.int p0]) _ (by decide) (Nat.le_of_ble_eq_true rfl) ?_
  intro p e s m args below meth c hx hb hr hml hts htl hown hlocks hK H locs hM hS ls hl
  have hown : s.vm.findClass RX13 = some m.cls := hown
  have hl : lv_has ls 1 [(0, .int p0)] := hl
  have hr_p0 := tk_rng p0
  refine lv_iload_n hx hb dX13_isDigit_0 rfl (lv_at hl 0 rfl) ?_
  refine lv_bipush (v := 48) hx hb dX13_isDigit_1 (by decide) ?_
  refine lv_icmp_lt (tgt := 16) hx hb dX13_isDigit_3 (by decide) (fun c9 => ?_) (fun c9 => ?_)
  · have hc1 : p0.toInt < 48 := (fi_lt rfl (show (48 : Int32).toInt = 48 by decide)).mp c9
    refine lv_iconst (v := 0) hx hb dX13_isDigit_16 (by decide) ?_
    have hk_0 : (0 : Int32).toInt = 0 := by decide
    exact mz_jret (v := 0) hx hb hr rfl hlocks ⟨(by omega), (by omega), (by omega), (by omega), (by omega), (by omega)⟩ hM hS dX13_isDigit_17
  · have hc1 : ¬ (p0.toInt < 48) := fun h9 => c9 ((fi_lt rfl (show (48 : Int32).toInt = 48 by decide)).mpr h9)
    refine lv_iload_n hx hb dX13_isDigit_6 rfl (lv_at hl 0 rfl) ?_
    refine lv_bipush (v := 57) hx hb dX13_isDigit_7 (by decide) ?_
    refine lv_icmp_gt (tgt := 16) hx hb dX13_isDigit_9 (by decide) (fun c9 => ?_) (fun c9 => ?_)
    · have hc2 : 57 < p0.toInt := (fi_lt (show (57 : Int32).toInt = 57 by decide) rfl).mp c9
      refine lv_iconst (v := 0) hx hb dX13_isDigit_16 (by decide) ?_
      have hk_0 : (0 : Int32).toInt = 0 := by decide
      exact mz_jret (v := 0) hx hb hr rfl hlocks ⟨(by omega), (by omega), (by omega), (by omega), (by omega), (by omega)⟩ hM hS dX13_isDigit_17
    · have hc2 : ¬ (57 < p0.toInt) := fun h9 => c9 ((fi_lt (show (57 : Int32).toInt = 57 by decide) rfl).mpr h9)
      refine lv_iconst (v := 1) hx hb dX13_isDigit_12 (by decide) ?_
      refine lv_goto (tgt := 17) hx hb dX13_isDigit_13 (by decide) ?_
      have hk_1 : (1 : Int32).toInt = 1 := by decide
      exact mz_jret (v := 1) hx hb hr rfl hlocks ⟨(by omega), (by omega), (by omega), (by omega), (by omega), (by omega)⟩ hM hS dX13_isDigit_17
end
