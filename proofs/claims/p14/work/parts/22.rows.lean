section
theorem dX7_clear_0 : decode cX7_clear 0 = .ok (.aload_n 0, 1) := sorry
theorem dX7_clear_1 : decode cX7_clear 1 = .ok (.iconst 0, 1) := sorry
theorem dX7_clear_2 : decode cX7_clear 2 = .ok (.putfield 30, 3) := sorry
theorem dX7_clear_5 : decode cX7_clear 5 = .ok (.aload_n 0, 1) := sorry
theorem dX7_clear_6 : decode cX7_clear 6 = .ok (.iconst 0, 1) := sorry
theorem dX7_clear_7 : decode cX7_clear 7 = .ok (.putfield 34, 3) := sorry
theorem dX7_clear_10 : decode cX7_clear 10 = .ok (.aload_n 0, 1) := sorry
theorem dX7_clear_11 : decode cX7_clear 11 = .ok (.iconst 0, 1) := sorry
theorem dX7_clear_12 : decode cX7_clear 12 = .ok (.putfield 37, 3) := sorry
theorem dX7_clear_15 : decode cX7_clear 15 = .ok (.aload_n 0, 1) := sorry
theorem dX7_clear_16 : decode cX7_clear 16 = .ok (.iconst 0, 1) := sorry
theorem dX7_clear_17 : decode cX7_clear 17 = .ok (.putfield 40, 3) := sorry
theorem dX7_clear_20 : decode cX7_clear 20 = .ok (.return_, 1) := sorry
set_option maxHeartbeats 4000000 in
set_option maxRecDepth 100000 in
theorem k_X7_clear (l : Launch) (D : va_G) (cy : Nat → ClassId) (ld : Nat → Nat) (t : tk_T) (a0 : Nat) (ht_a0 : t a0 = (8, 512, 12)) : Met l yX7_clear (wl yX7_clear cX7_clear 1 none) ({ frames := 3, cells := 0, slots := 0, locals := 140 }) (tp D cy ld t [] [.ref a0] (fun H => True)) (tv D cy ld t [] (fun H => True) (tk_w t [(8, 12, 12)])) 0 0 (tk_w t [(8, 12, 12)]) := by sorry
theorem dX6_read_0 : decode cX6_read 0 = .ok (.aload_n 0, 1) := sorry
theorem dX6_read_1 : decode cX6_read 1 = .ok (.getfield 16, 3) := sorry
theorem dX6_read_4 : decode cX6_read 4 = .ok (.invokevirtual 24, 3) := sorry
theorem dX6_read_7 : decode cX6_read 7 = .ok (.aload_n 0, 1) := sorry
theorem dX6_read_8 : decode cX6_read 8 = .ok (.iload_n 1, 1) := sorry
theorem dX6_read_9 : decode cX6_read 9 = .ok (.aload_n 0, 1) := sorry
theorem dX6_read_10 : decode cX6_read 10 = .ok (.getfield 20, 3) := sorry
theorem dX6_read_13 : decode cX6_read 13 = .ok (.arraylength, 1) := sorry
theorem dX6_read_14 : decode cX6_read 14 = .ok (.invokestatic 27, 3) := sorry
theorem dX6_read_17 : decode cX6_read 17 = .ok (.putfield 33, 3) := sorry
theorem dX6_read_20 : decode cX6_read 20 = .ok (.aload_n 0, 1) := sorry
theorem dX6_read_21 : decode cX6_read 21 = .ok (.iload_n 2, 1) := sorry
theorem dX6_read_22 : decode cX6_read 22 = .ok (.putfield 37, 3) := sorry
theorem dX6_read_25 : decode cX6_read 25 = .ok (.aload_n 0, 1) := sorry
theorem dX6_read_26 : decode cX6_read 26 = .ok (.iconst 0, 1) := sorry
theorem dX6_read_27 : decode cX6_read 27 = .ok (.putfield 41, 3) := sorry
theorem dX6_read_30 : decode cX6_read 30 = .ok (.aload_n 0, 1) := sorry
theorem dX6_read_31 : decode cX6_read 31 = .ok (.iconst 0, 1) := sorry
theorem dX6_read_32 : decode cX6_read 32 = .ok (.putfield 44, 3) := sorry
theorem dX6_read_35 : decode cX6_read 35 = .ok (.aload_n 0, 1) := sorry
theorem dX6_read_36 : decode cX6_read 36 = .ok (.iconst 0, 1) := sorry
theorem dX6_read_37 : decode cX6_read 37 = .ok (.putfield 47, 3) := sorry
theorem dX6_read_40 : decode cX6_read 40 = .ok (.aload_n 0, 1) := sorry
theorem dX6_read_41 : decode cX6_read 41 = .ok (.iconst (-1), 1) := sorry
theorem dX6_read_42 : decode cX6_read 42 = .ok (.putfield 50, 3) := sorry
theorem dX6_read_45 : decode cX6_read 45 = .ok (.aload_n 0, 1) := sorry
theorem dX6_read_46 : decode cX6_read 46 = .ok (.invokevirtual 53, 3) := sorry
theorem dX6_read_49 : decode cX6_read 49 = .ok (.iconst 0, 1) := sorry
theorem dX6_read_50 : decode cX6_read 50 = .ok (.istore_n 3, 1) := sorry
theorem dX6_read_51 : decode cX6_read 51 = .ok (.iload_n 3, 1) := sorry
theorem dX6_read_52 : decode cX6_read 52 = .ok (.bipush 12, 2) := sorry
theorem dX6_read_54 : decode cX6_read 54 = .ok (.if_icmp .gt 57, 3) := sorry
theorem dX6_read_57 : decode cX6_read 57 = .ok (.aload_n 0, 1) := sorry
theorem dX6_read_58 : decode cX6_read 58 = .ok (.invokevirtual 56, 3) := sorry
theorem dX6_read_111 : decode cX6_read 111 = .ok (.aload_n 0, 1) := sorry
theorem dX6_read_112 : decode cX6_read 112 = .ok (.getfield 50, 3) := sorry
theorem dX6_read_115 : decode cX6_read 115 = .ok (.ireturn, 1) := sorry
theorem dX6_read_61 : decode cX6_read 61 = .ok (.ifCond .eq 50, 3) := sorry
theorem dX6_read_64 : decode cX6_read 64 = .ok (.iload_n 3, 1) := sorry
theorem dX6_read_65 : decode cX6_read 65 = .ok (.bipush 12, 2) := sorry
theorem dX6_read_67 : decode cX6_read 67 = .ok (.if_icmp .ne 10, 3) := sorry
theorem dX6_read_77 : decode cX6_read 77 = .ok (.aload_n 0, 1) := sorry
theorem dX6_read_78 : decode cX6_read 78 = .ok (.iload_n 3, 1) := sorry
theorem dX6_read_79 : decode cX6_read 79 = .ok (.invokevirtual 63, 3) := sorry
theorem dX6_read_82 : decode cX6_read 82 = .ok (.aload_n 0, 1) := sorry
theorem dX6_read_83 : decode cX6_read 83 = .ok (.invokevirtual 56, 3) := sorry
theorem dX6_read_86 : decode cX6_read 86 = .ok (.ifCond .eq 13, 3) := sorry
theorem dX6_read_99 : decode cX6_read 99 = .ok (.aload_n 0, 1) := sorry
theorem dX6_read_100 : decode cX6_read 100 = .ok (.bipush 59, 2) := sorry
theorem dX6_read_102 : decode cX6_read 102 = .ok (.invokevirtual 70, 3) := sorry
theorem dX6_read_105 : decode cX6_read 105 = .ok (.iinc 3 1, 3) := sorry
theorem dX6_read_108 : decode cX6_read 108 = .ok (.goto (-57), 3) := sorry
theorem dX6_read_89 : decode cX6_read 89 = .ok (.aload_n 0, 1) := sorry
theorem dX6_read_90 : decode cX6_read 90 = .ok (.getfield 67, 3) := sorry
theorem dX6_read_93 : decode cX6_read 93 = .ok (.ifCond .ne 6, 3) := sorry
theorem dX6_read_96 : decode cX6_read 96 = .ok (.goto 15, 3) := sorry
theorem dX6_read_70 : decode cX6_read 70 = .ok (.aload_n 0, 1) := sorry
theorem dX6_read_71 : decode cX6_read 71 = .ok (.invokevirtual 60, 3) := sorry
theorem dX6_read_74 : decode cX6_read 74 = .ok (.goto 37, 3) := sorry
set_option maxHeartbeats 4000000 in
set_option maxRecDepth 100000 in
theorem k_X6_read (l : Launch) (D : va_G) (cy : Nat → ClassId) (ld : Nat → Nat) (t : tk_T) (a0 : Nat) (p1 : Int32) (p2 : Int32) (ht_a0 : t a0 = (7, 0, 0)) (hp_0 : 0 ≤ p1.toInt) (hp_1 : p1.toInt ≤ 400) (hp_2 : 0 ≤ p2.toInt) (hp_3 : p2.toInt ≤ 1) : Met l yX6_read (wl yX6_read cX6_read 4 (some .int)) ({ frames := 40, cells := 0, slots := 0, locals := 2730 }) (tp D cy ld t [] [.ref a0, .int p1, .int p2] (fun H => True)) (ti D cy ld t [] (fun r H => True) (tk_w t [(8, 12, 12), (7, 0, 0), (20, 0, 0), (23, 0, 0)])) 0 0 (tk_w t [(8, 12, 12), (7, 0, 0), (20, 0, 0), (23, 0, 0)]) := by sorry
theorem dX8_howTires_0 : decode cX8_howTires 0 = .ok (.aload_n 0, 1) := sorry
theorem dX8_howTires_1 : decode cX8_howTires 1 = .ok (.aload_n 1, 1) := sorry
theorem dX8_howTires_2 : decode cX8_howTires 2 = .ok (.iload_n 2, 1) := sorry
theorem dX8_howTires_3 : decode cX8_howTires 3 = .ok (.invokevirtual 22, 3) := sorry
theorem dX8_howTires_6 : decode cX8_howTires 6 = .ok (.aload_n 0, 1) := sorry
theorem dX8_howTires_7 : decode cX8_howTires 7 = .ok (.invokevirtual 30, 3) := sorry
theorem dX8_howTires_10 : decode cX8_howTires 10 = .ok (.ireturn, 1) := sorry
set_option maxHeartbeats 4000000 in
set_option maxRecDepth 100000 in
theorem k_X8_howTires (l : Launch) (D : va_G) (cy : Nat → ClassId) (ld : Nat → Nat) (t : tk_T) (rg1 : Nat) (a0 : Nat) (a1 : Nat) (p2 : Int32) (g0 : Int32) (ht_a0 : t a0 = (9, 0, 0)) (ht_a1 : t a1 = (10, 0, rg1)) (hp_0 : 0 ≤ p2.toInt) (hp_1 : p2.toInt ≤ 9) (hp_2 : 0 ≤ g0.toInt) (hp_3 : g0.toInt ≤ 7) : Met l yX8_howTires (wl yX8_howTires cX8_howTires 3 (some .int)) ({ frames := 6, cells := 0, slots := 0, locals := 350 }) (tp D cy ld t [] [.ref a0, .ref a1, .int p2] (fun H => tk_f D H a1 9 5 (.int g0))) (ti D cy ld t [] (fun r H => True) (tk_w t [(20, 0, 0), (12, 0, 0), (9, 0, 0)])) 0 0 (tk_w t [(20, 0, 0), (12, 0, 0), (9, 0, 0)]) := by sorry
theorem dX8_setStranger_0 : decode cX8_setStranger 0 = .ok (.aload_n 0, 1) := sorry
theorem dX8_setStranger_1 : decode cX8_setStranger 1 = .ok (.iload_n 1, 1) := sorry
theorem dX8_setStranger_2 : decode cX8_setStranger 2 = .ok (.iload_n 2, 1) := sorry
theorem dX8_setStranger_3 : decode cX8_setStranger 3 = .ok (.iload_n 3, 1) := sorry
theorem dX8_setStranger_4 : decode cX8_setStranger 4 = .ok (.iload 4, 2) := sorry
theorem dX8_setStranger_6 : decode cX8_setStranger 6 = .ok (.invokevirtual 74, 3) := sorry
theorem dX8_setStranger_9 : decode cX8_setStranger 9 = .ok (.aload_n 0, 1) := sorry
theorem dX8_setStranger_10 : decode cX8_setStranger 10 = .ok (.getfield 12, 3) := sorry
theorem dX8_setStranger_13 : decode cX8_setStranger 13 = .ok (.getfield 48, 3) := sorry
theorem dX8_setStranger_16 : decode cX8_setStranger 16 = .ok (.bipush 6, 2) := sorry
theorem dX8_setStranger_18 : decode cX8_setStranger 18 = .ok (.iload 5, 2) := sorry
theorem dX8_setStranger_20 : decode cX8_setStranger 20 = .ok (.iastore, 1) := sorry
theorem dX8_setStranger_21 : decode cX8_setStranger 21 = .ok (.aload_n 0, 1) := sorry
theorem dX8_setStranger_22 : decode cX8_setStranger 22 = .ok (.getfield 12, 3) := sorry
theorem dX8_setStranger_25 : decode cX8_setStranger 25 = .ok (.getfield 48, 3) := sorry
theorem dX8_setStranger_28 : decode cX8_setStranger 28 = .ok (.bipush 7, 2) := sorry
theorem dX8_setStranger_30 : decode cX8_setStranger 30 = .ok (.aload_n 0, 1) := sorry
theorem dX8_setStranger_31 : decode cX8_setStranger 31 = .ok (.getfield 18, 3) := sorry
theorem dX8_setStranger_34 : decode cX8_setStranger 34 = .ok (.getfield 78, 3) := sorry
theorem dX8_setStranger_37 : decode cX8_setStranger 37 = .ok (.getfield 60, 3) := sorry
theorem dX8_setStranger_40 : decode cX8_setStranger 40 = .ok (.iastore, 1) := sorry
theorem dX8_setStranger_41 : decode cX8_setStranger 41 = .ok (.return_, 1) := sorry
set_option maxHeartbeats 4000000 in
set_option maxRecDepth 100000 in
theorem k_X8_setStranger (l : Launch) (D : va_G) (cy : Nat → ClassId) (ld : Nat → Nat) (t : tk_T) (a0 : Nat) (p1 : Int32) (p2 : Int32) (p3 : Int32) (p4 : Int32) (p5 : Int32) (ht_a0 : t a0 = (9, 0, 0)) (hp_0 : 0 ≤ p1.toInt) (hp_1 : p1.toInt ≤ 9) (hp_2 : 0 ≤ p2.toInt) (hp_3 : p2.toInt ≤ 7) : Met l yX8_setStranger (wl yX8_setStranger cX8_setStranger 6 none) ({ frames := 4, cells := 0, slots := 0, locals := 210 }) (tp D cy ld t [] [.ref a0, .int p1, .int p2, .int p3, .int p4, .int p5] (fun H => True)) (tv D cy ld t [] (fun H => True) (tk_w t [(20, 0, 0)])) 0 0 (tk_w t [(20, 0, 0)]) := by sorry
theorem dX8_lullsAt_0 : decode cX8_lullsAt 0 = .ok (.aload_n 0, 1) := sorry
theorem dX8_lullsAt_1 : decode cX8_lullsAt 1 = .ok (.getfield 12, 3) := sorry
theorem dX8_lullsAt_4 : decode cX8_lullsAt 4 = .ok (.getfield 48, 3) := sorry
theorem dX8_lullsAt_7 : decode cX8_lullsAt 7 = .ok (.iconst 5, 1) := sorry
theorem dX8_lullsAt_8 : decode cX8_lullsAt 8 = .ok (.iload_n 1, 1) := sorry
theorem dX8_lullsAt_9 : decode cX8_lullsAt 9 = .ok (.iastore, 1) := sorry
theorem dX8_lullsAt_10 : decode cX8_lullsAt 10 = .ok (.aload_n 0, 1) := sorry
theorem dX8_lullsAt_11 : decode cX8_lullsAt 11 = .ok (.invokevirtual 26, 3) := sorry
theorem dX8_lullsAt_14 : decode cX8_lullsAt 14 = .ok (.ireturn, 1) := sorry
set_option maxHeartbeats 4000000 in
set_option maxRecDepth 100000 in
theorem k_X8_lullsAt (l : Launch) (D : va_G) (cy : Nat → ClassId) (ld : Nat → Nat) (t : tk_T) (a0 : Nat) (p1 : Int32) (ht_a0 : t a0 = (9, 0, 0)) : Met l yX8_lullsAt (wl yX8_lullsAt cX8_lullsAt 2 (some .int)) ({ frames := 6, cells := 0, slots := 0, locals := 350 }) (tp D cy ld t [] [.ref a0, .int p1] (fun H => True)) (ti D cy ld t [] (fun r H => True) (tk_w t [(20, 0, 0), (12, 0, 0), (9, 0, 0)])) 0 0 (tk_w t [(20, 0, 0), (12, 0, 0), (9, 0, 0)]) := by sorry
theorem dX8_isLullByWake_0 : decode cX8_isLullByWake 0 = .ok (.aload_n 0, 1) := sorry
theorem dX8_isLullByWake_1 : decode cX8_isLullByWake 1 = .ok (.getfield 18, 3) := sorry
theorem dX8_isLullByWake_4 : decode cX8_isLullByWake 4 = .ok (.invokevirtual 33, 3) := sorry
theorem dX8_isLullByWake_7 : decode cX8_isLullByWake 7 = .ok (.astore_n 1, 1) := sorry
theorem dX8_isLullByWake_8 : decode cX8_isLullByWake 8 = .ok (.aload_n 1, 1) := sorry
theorem dX8_isLullByWake_9 : decode cX8_isLullByWake 9 = .ok (.ifnull 14, 3) := sorry
theorem dX8_isLullByWake_23 : decode cX8_isLullByWake 23 = .ok (.iconst 0, 1) := sorry
theorem dX8_isLullByWake_24 : decode cX8_isLullByWake 24 = .ok (.ireturn, 1) := sorry
theorem dX8_isLullByWake_12 : decode cX8_isLullByWake 12 = .ok (.aload_n 1, 1) := sorry
theorem dX8_isLullByWake_13 : decode cX8_isLullByWake 13 = .ok (.getfield 82, 3) := sorry
theorem dX8_isLullByWake_16 : decode cX8_isLullByWake 16 = .ok (.ifCond .eq 7, 3) := sorry
theorem dX8_isLullByWake_19 : decode cX8_isLullByWake 19 = .ok (.iconst 1, 1) := sorry
theorem dX8_isLullByWake_20 : decode cX8_isLullByWake 20 = .ok (.goto 4, 3) := sorry
set_option maxHeartbeats 4000000 in
set_option maxRecDepth 100000 in
theorem k_X8_isLullByWake (l : Launch) (D : va_G) (cy : Nat → ClassId) (ld : Nat → Nat) (t : tk_T) (a0 : Nat) (ht_a0 : t a0 = (9, 0, 0)) : Met l yX8_isLullByWake (wl yX8_isLullByWake cX8_isLullByWake 2 (some .boolean)) ({ frames := 4, cells := 0, slots := 0, locals := 210 }) (tp D cy ld t [] [.ref a0] (fun H => True)) (ti D cy ld t [] (fun r H => 0 ≤ r.toInt ∧ r.toInt ≤ 1 ∧ 0 ≤ r.toInt ∧ r.toInt ≤ 1) (tk_w t [])) 0 0 (tk_w t []) := by sorry
theorem dX10_hearOne_0 : decode cX10_hearOne 0 = .ok (.aload_n 0, 1) := sorry
theorem dX10_hearOne_1 : decode cX10_hearOne 1 = .ok (.getfield 19, 3) := sorry
theorem dX10_hearOne_4 : decode cX10_hearOne 4 = .ok (.invokevirtual 59, 3) := sorry
theorem dX10_hearOne_7 : decode cX10_hearOne 7 = .ok (.istore_n 2, 1) := sorry
theorem dX10_hearOne_8 : decode cX10_hearOne 8 = .ok (.aload_n 0, 1) := sorry
theorem dX10_hearOne_9 : decode cX10_hearOne 9 = .ok (.getfield 19, 3) := sorry
theorem dX10_hearOne_12 : decode cX10_hearOne 12 = .ok (.sipush 999, 3) := sorry
theorem dX10_hearOne_15 : decode cX10_hearOne 15 = .ok (.invokevirtual 63, 3) := sorry
theorem dX10_hearOne_18 : decode cX10_hearOne 18 = .ok (.istore_n 3, 1) := sorry
theorem dX10_hearOne_19 : decode cX10_hearOne 19 = .ok (.iconst 1, 1) := sorry
theorem dX10_hearOne_20 : decode cX10_hearOne 20 = .ok (.istore 4, 2) := sorry
theorem dX10_hearOne_22 : decode cX10_hearOne 22 = .ok (.iload 4, 2) := sorry
theorem dX10_hearOne_24 : decode cX10_hearOne 24 = .ok (.sipush 999, 3) := sorry
theorem dX10_hearOne_27 : decode cX10_hearOne 27 = .ok (.if_icmp .gt 87, 3) := sorry
theorem dX10_hearOne_114 : decode cX10_hearOne 114 = .ok (.return_, 1) := sorry
theorem dX10_hearOne_30 : decode cX10_hearOne 30 = .ok (.aload_n 0, 1) := sorry
theorem dX10_hearOne_31 : decode cX10_hearOne 31 = .ok (.getfield 9, 3) := sorry
theorem dX10_hearOne_34 : decode cX10_hearOne 34 = .ok (.iload 4, 2) := sorry
theorem dX10_hearOne_36 : decode cX10_hearOne 36 = .ok (.iaload, 1) := sorry
theorem dX10_hearOne_37 : decode cX10_hearOne 37 = .ok (.istore 5, 2) := sorry
theorem dX10_hearOne_39 : decode cX10_hearOne 39 = .ok (.iload 5, 2) := sorry
theorem dX10_hearOne_108 : decode cX10_hearOne 108 = .ok (.iinc 4 1, 3) := sorry
theorem dX10_hearOne_111 : decode cX10_hearOne 111 = .ok (.goto (-89), 3) := sorry
theorem dX10_hearOne_41 : decode cX10_hearOne 41 = .ok (.ifCond .gt 14, 3) := sorry
theorem dX10_hearOne_55 : decode cX10_hearOne 55 = .ok (.iconst 0, 1) := sorry
theorem dX10_hearOne_56 : decode cX10_hearOne 56 = .ok (.iload 5, 2) := sorry
theorem dX10_hearOne_58 : decode cX10_hearOne 58 = .ok (.iload_n 2, 1) := sorry
theorem dX10_hearOne_75 : decode cX10_hearOne 75 = .ok (.isub, 1) := sorry
theorem dX10_hearOne_76 : decode cX10_hearOne 76 = .ok (.invokestatic 43, 3) := sorry
theorem dX10_hearOne_79 : decode cX10_hearOne 79 = .ok (.istore 6, 2) := sorry
theorem dX10_hearOne_81 : decode cX10_hearOne 81 = .ok (.aload_n 0, 1) := sorry
theorem dX10_hearOne_82 : decode cX10_hearOne 82 = .ok (.getfield 9, 3) := sorry
theorem dX10_hearOne_85 : decode cX10_hearOne 85 = .ok (.iload 4, 2) := sorry
theorem dX10_hearOne_87 : decode cX10_hearOne 87 = .ok (.iload_n 1, 1) := sorry
theorem dX10_hearOne_88 : decode cX10_hearOne 88 = .ok (.iload 6, 2) := sorry
theorem dX10_hearOne_107 : decode cX10_hearOne 107 = .ok (.iastore, 1) := sorry
theorem dX10_hearOne_98 : decode cX10_hearOne 98 = .ok (.if_icmp .ne 8, 3) := sorry
theorem dX10_hearOne_106 : decode cX10_hearOne 106 = .ok (.iconst (-1), 1) := sorry
theorem dX10_hearOne_101 : decode cX10_hearOne 101 = .ok (.iload 6, 2) := sorry
theorem dX10_hearOne_103 : decode cX10_hearOne 103 = .ok (.goto 4, 3) := sorry
theorem dX10_hearOne_90 : decode cX10_hearOne 90 = .ok (.ifCond .ne 7, 3) := sorry
theorem dX10_hearOne_97 : decode cX10_hearOne 97 = .ok (.iconst 0, 1) := sorry
theorem dX10_hearOne_93 : decode cX10_hearOne 93 = .ok (.iconst 1, 1) := sorry
theorem dX10_hearOne_94 : decode cX10_hearOne 94 = .ok (.goto 4, 3) := sorry
theorem dX10_hearOne_59 : decode cX10_hearOne 59 = .ok (.ifCond .eq 15, 3) := sorry
theorem dX10_hearOne_74 : decode cX10_hearOne 74 = .ok (.iload_n 3, 1) := sorry
theorem dX10_hearOne_62 : decode cX10_hearOne 62 = .ok (.aload_n 0, 1) := sorry
theorem dX10_hearOne_63 : decode cX10_hearOne 63 = .ok (.getfield 19, 3) := sorry
theorem dX10_hearOne_66 : decode cX10_hearOne 66 = .ok (.iload 5, 2) := sorry
theorem dX10_hearOne_68 : decode cX10_hearOne 68 = .ok (.invokevirtual 63, 3) := sorry
theorem dX10_hearOne_71 : decode cX10_hearOne 71 = .ok (.goto 4, 3) := sorry
theorem dX10_hearOne_44 : decode cX10_hearOne 44 = .ok (.aload_n 0, 1) := sorry
theorem dX10_hearOne_45 : decode cX10_hearOne 45 = .ok (.getfield 9, 3) := sorry
theorem dX10_hearOne_48 : decode cX10_hearOne 48 = .ok (.iload 4, 2) := sorry
theorem dX10_hearOne_50 : decode cX10_hearOne 50 = .ok (.iconst (-1), 1) := sorry
theorem dX10_hearOne_51 : decode cX10_hearOne 51 = .ok (.iastore, 1) := sorry
theorem dX10_hearOne_52 : decode cX10_hearOne 52 = .ok (.goto 56, 3) := sorry
set_option maxHeartbeats 4000000 in
set_option maxRecDepth 100000 in
theorem k_X10_hearOne (l : Launch) (D : va_G) (cy : Nat → ClassId) (ld : Nat → Nat) (t : tk_T) (a0 : Nat) (p1 : Int32) (ht_a0 : t a0 = (11, 0, 0)) (hp_0 : 0 ≤ p1.toInt) (hp_1 : p1.toInt ≤ 1) : Met l yX10_hearOne (wl yX10_hearOne cX10_hearOne 7 none) ({ frames := 7, cells := 0, slots := 0, locals := 420 }) (tp D cy ld t [] [.ref a0, .int p1] (fun H => True)) (tv D cy ld t [] (fun H => True) (tk_w t [(20, 0, 0), (12, 0, 0), (9, 0, 0)])) 0 0 (tk_w t [(20, 0, 0), (12, 0, 0), (9, 0, 0)]) := by sorry
theorem dX10_hearAll_0 : decode cX10_hearAll 0 = .ok (.iconst 0, 1) := sorry
theorem dX10_hearAll_1 : decode cX10_hearAll 1 = .ok (.istore_n 2, 1) := sorry
theorem dX10_hearAll_2 : decode cX10_hearAll 2 = .ok (.iload_n 2, 1) := sorry
theorem dX10_hearAll_3 : decode cX10_hearAll 3 = .ok (.sipush 999, 3) := sorry
theorem dX10_hearAll_6 : decode cX10_hearAll 6 = .ok (.if_icmp .gt 16, 3) := sorry
theorem dX10_hearAll_22 : decode cX10_hearAll 22 = .ok (.aload_n 0, 1) := sorry
theorem dX10_hearAll_23 : decode cX10_hearAll 23 = .ok (.getfield 15, 3) := sorry
theorem dX10_hearAll_26 : decode cX10_hearAll 26 = .ok (.getfield 49, 3) := sorry
theorem dX10_hearAll_29 : decode cX10_hearAll 29 = .ok (.astore_n 2, 1) := sorry
theorem dX10_hearAll_30 : decode cX10_hearAll 30 = .ok (.iconst 0, 1) := sorry
theorem dX10_hearAll_31 : decode cX10_hearAll 31 = .ok (.istore_n 3, 1) := sorry
theorem dX10_hearAll_32 : decode cX10_hearAll 32 = .ok (.iload_n 3, 1) := sorry
theorem dX10_hearAll_33 : decode cX10_hearAll 33 = .ok (.aload_n 0, 1) := sorry
theorem dX10_hearAll_34 : decode cX10_hearAll 34 = .ok (.getfield 15, 3) := sorry
theorem dX10_hearAll_37 : decode cX10_hearAll 37 = .ok (.getfield 52, 3) := sorry
theorem dX10_hearAll_40 : decode cX10_hearAll 40 = .ok (.if_icmp .ge 63, 3) := sorry
theorem dX10_hearAll_103 : decode cX10_hearAll 103 = .ok (.return_, 1) := sorry
theorem dX10_hearAll_43 : decode cX10_hearAll 43 = .ok (.iload_n 3, 1) := sorry
theorem dX10_hearAll_44 : decode cX10_hearAll 44 = .ok (.iconst 5, 1) := sorry
theorem dX10_hearAll_45 : decode cX10_hearAll 45 = .ok (.imul, 1) := sorry
theorem dX10_hearAll_46 : decode cX10_hearAll 46 = .ok (.istore 4, 2) := sorry
theorem dX10_hearAll_48 : decode cX10_hearAll 48 = .ok (.aload_n 0, 1) := sorry
theorem dX10_hearAll_49 : decode cX10_hearAll 49 = .ok (.getfield 19, 3) := sorry
theorem dX10_hearAll_52 : decode cX10_hearAll 52 = .ok (.aload_n 2, 1) := sorry
theorem dX10_hearAll_53 : decode cX10_hearAll 53 = .ok (.iload 4, 2) := sorry
theorem dX10_hearAll_55 : decode cX10_hearAll 55 = .ok (.iaload, 1) := sorry
theorem dX10_hearAll_56 : decode cX10_hearAll 56 = .ok (.aload_n 2, 1) := sorry
theorem dX10_hearAll_57 : decode cX10_hearAll 57 = .ok (.iload 4, 2) := sorry
theorem dX10_hearAll_59 : decode cX10_hearAll 59 = .ok (.iconst 1, 1) := sorry
theorem dX10_hearAll_60 : decode cX10_hearAll 60 = .ok (.iadd, 1) := sorry
theorem dX10_hearAll_61 : decode cX10_hearAll 61 = .ok (.iaload, 1) := sorry
theorem dX10_hearAll_62 : decode cX10_hearAll 62 = .ok (.aload_n 2, 1) := sorry
theorem dX10_hearAll_63 : decode cX10_hearAll 63 = .ok (.iload 4, 2) := sorry
theorem dX10_hearAll_65 : decode cX10_hearAll 65 = .ok (.iconst 2, 1) := sorry
theorem dX10_hearAll_66 : decode cX10_hearAll 66 = .ok (.iadd, 1) := sorry
theorem dX10_hearAll_67 : decode cX10_hearAll 67 = .ok (.iaload, 1) := sorry
theorem dX10_hearAll_68 : decode cX10_hearAll 68 = .ok (.aload_n 2, 1) := sorry
theorem dX10_hearAll_69 : decode cX10_hearAll 69 = .ok (.iload 4, 2) := sorry
theorem dX10_hearAll_71 : decode cX10_hearAll 71 = .ok (.iconst 3, 1) := sorry
theorem dX10_hearAll_72 : decode cX10_hearAll 72 = .ok (.iadd, 1) := sorry
theorem dX10_hearAll_73 : decode cX10_hearAll 73 = .ok (.iaload, 1) := sorry
theorem dX10_hearAll_74 : decode cX10_hearAll 74 = .ok (.iload_n 1, 1) := sorry
theorem dX10_hearAll_75 : decode cX10_hearAll 75 = .ok (.invokevirtual 33, 3) := sorry
theorem dX10_hearAll_78 : decode cX10_hearAll 78 = .ok (.aload_n 0, 1) := sorry
theorem dX10_hearAll_79 : decode cX10_hearAll 79 = .ok (.aload_n 2, 1) := sorry
theorem dX10_hearAll_80 : decode cX10_hearAll 80 = .ok (.iload 4, 2) := sorry
theorem dX10_hearAll_82 : decode cX10_hearAll 82 = .ok (.iconst 4, 1) := sorry
theorem dX10_hearAll_83 : decode cX10_hearAll 83 = .ok (.iadd, 1) := sorry
theorem dX10_hearAll_84 : decode cX10_hearAll 84 = .ok (.iaload, 1) := sorry
theorem dX10_hearAll_85 : decode cX10_hearAll 85 = .ok (.iconst 1, 1) := sorry
theorem dX10_hearAll_94 : decode cX10_hearAll 94 = .ok (.invokevirtual 55, 3) := sorry
theorem dX10_hearAll_97 : decode cX10_hearAll 97 = .ok (.iinc 3 1, 3) := sorry
theorem dX10_hearAll_100 : decode cX10_hearAll 100 = .ok (.goto (-68), 3) := sorry
theorem dX10_hearAll_86 : decode cX10_hearAll 86 = .ok (.if_icmp .ne 7, 3) := sorry
theorem dX10_hearAll_93 : decode cX10_hearAll 93 = .ok (.iconst 0, 1) := sorry
theorem dX10_hearAll_89 : decode cX10_hearAll 89 = .ok (.iconst 1, 1) := sorry
theorem dX10_hearAll_90 : decode cX10_hearAll 90 = .ok (.goto 4, 3) := sorry
theorem dX10_hearAll_9 : decode cX10_hearAll 9 = .ok (.aload_n 0, 1) := sorry
theorem dX10_hearAll_10 : decode cX10_hearAll 10 = .ok (.getfield 9, 3) := sorry
theorem dX10_hearAll_13 : decode cX10_hearAll 13 = .ok (.iload_n 2, 1) := sorry
theorem dX10_hearAll_14 : decode cX10_hearAll 14 = .ok (.iload_n 2, 1) := sorry
theorem dX10_hearAll_15 : decode cX10_hearAll 15 = .ok (.iastore, 1) := sorry
theorem dX10_hearAll_16 : decode cX10_hearAll 16 = .ok (.iinc 2 1, 3) := sorry
theorem dX10_hearAll_19 : decode cX10_hearAll 19 = .ok (.goto (-17), 3) := sorry
set_option maxHeartbeats 4000000 in
set_option maxRecDepth 100000 in
theorem k_X10_hearAll (l : Launch) (D : va_G) (cy : Nat → ClassId) (ld : Nat → Nat) (t : tk_T) (a0 : Nat) (p1 : Int32) (ht_a0 : t a0 = (11, 0, 0)) : Met l yX10_hearAll (wl yX10_hearAll cX10_hearAll 5 none) ({ frames := 8, cells := 0, slots := 0, locals := 490 }) (tp D cy ld t [] [.ref a0, .int p1] (fun H => True)) (tv D cy ld t [] (fun H => True) (tk_w t [(20, 0, 0), (12, 0, 0), (9, 0, 0)])) 0 0 (tk_w t [(20, 0, 0), (12, 0, 0), (9, 0, 0)]) := by sorry
theorem dX10_leastWake_0 : decode cX10_leastWake 0 = .ok (.aload_n 0, 1) := sorry
theorem dX10_leastWake_1 : decode cX10_leastWake 1 = .ok (.iload_n 1, 1) := sorry
theorem dX10_leastWake_2 : decode cX10_leastWake 2 = .ok (.invokevirtual 23, 3) := sorry
theorem dX10_leastWake_5 : decode cX10_leastWake 5 = .ok (.iconst 1, 1) := sorry
theorem dX10_leastWake_6 : decode cX10_leastWake 6 = .ok (.istore_n 2, 1) := sorry
theorem dX10_leastWake_7 : decode cX10_leastWake 7 = .ok (.iload_n 2, 1) := sorry
theorem dX10_leastWake_8 : decode cX10_leastWake 8 = .ok (.sipush 999, 3) := sorry
theorem dX10_leastWake_11 : decode cX10_leastWake 11 = .ok (.if_icmp .gt 21, 3) := sorry
theorem dX10_leastWake_32 : decode cX10_leastWake 32 = .ok (.iconst (-1), 1) := sorry
theorem dX10_leastWake_33 : decode cX10_leastWake 33 = .ok (.ireturn, 1) := sorry
theorem dX10_leastWake_14 : decode cX10_leastWake 14 = .ok (.aload_n 0, 1) := sorry
theorem dX10_leastWake_15 : decode cX10_leastWake 15 = .ok (.getfield 9, 3) := sorry
theorem dX10_leastWake_18 : decode cX10_leastWake 18 = .ok (.iload_n 2, 1) := sorry
theorem dX10_leastWake_19 : decode cX10_leastWake 19 = .ok (.iaload, 1) := sorry
theorem dX10_leastWake_20 : decode cX10_leastWake 20 = .ok (.iconst (-1), 1) := sorry
theorem dX10_leastWake_21 : decode cX10_leastWake 21 = .ok (.if_icmp .eq 5, 3) := sorry
theorem dX10_leastWake_26 : decode cX10_leastWake 26 = .ok (.iinc 2 1, 3) := sorry
theorem dX10_leastWake_29 : decode cX10_leastWake 29 = .ok (.goto (-22), 3) := sorry
theorem dX10_leastWake_24 : decode cX10_leastWake 24 = .ok (.iload_n 2, 1) := sorry
theorem dX10_leastWake_25 : decode cX10_leastWake 25 = .ok (.ireturn, 1) := sorry
set_option maxHeartbeats 4000000 in
set_option maxRecDepth 100000 in
theorem k_X10_leastWake (l : Launch) (D : va_G) (cy : Nat → ClassId) (ld : Nat → Nat) (t : tk_T) (a0 : Nat) (p1 : Int32) (ht_a0 : t a0 = (11, 0, 0)) : Met l yX10_leastWake (wl yX10_leastWake cX10_leastWake 3 (some .int)) ({ frames := 9, cells := 0, slots := 0, locals := 560 }) (tp D cy ld t [] [.ref a0, .int p1] (fun H => True)) (ti D cy ld t [] (fun r H => (-1) ≤ r.toInt ∧ r.toInt ≤ 999) (tk_w t [(20, 0, 0), (12, 0, 0), (9, 0, 0)])) 0 0 (tk_w t [(20, 0, 0), (12, 0, 0), (9, 0, 0)]) := by sorry
theorem dX10_greatestWake_0 : decode cX10_greatestWake 0 = .ok (.aload_n 0, 1) := sorry
theorem dX10_greatestWake_1 : decode cX10_greatestWake 1 = .ok (.iload_n 1, 1) := sorry
theorem dX10_greatestWake_2 : decode cX10_greatestWake 2 = .ok (.invokevirtual 23, 3) := sorry
theorem dX10_greatestWake_5 : decode cX10_greatestWake 5 = .ok (.sipush 999, 3) := sorry
theorem dX10_greatestWake_8 : decode cX10_greatestWake 8 = .ok (.istore_n 2, 1) := sorry
theorem dX10_greatestWake_9 : decode cX10_greatestWake 9 = .ok (.iload_n 2, 1) := sorry
theorem dX10_greatestWake_10 : decode cX10_greatestWake 10 = .ok (.iconst 1, 1) := sorry
theorem dX10_greatestWake_11 : decode cX10_greatestWake 11 = .ok (.if_icmp .lt 21, 3) := sorry
theorem dX10_greatestWake_32 : decode cX10_greatestWake 32 = .ok (.iconst (-1), 1) := sorry
theorem dX10_greatestWake_33 : decode cX10_greatestWake 33 = .ok (.ireturn, 1) := sorry
theorem dX10_greatestWake_14 : decode cX10_greatestWake 14 = .ok (.aload_n 0, 1) := sorry
theorem dX10_greatestWake_15 : decode cX10_greatestWake 15 = .ok (.getfield 9, 3) := sorry
theorem dX10_greatestWake_18 : decode cX10_greatestWake 18 = .ok (.iload_n 2, 1) := sorry
theorem dX10_greatestWake_19 : decode cX10_greatestWake 19 = .ok (.iaload, 1) := sorry
theorem dX10_greatestWake_20 : decode cX10_greatestWake 20 = .ok (.iconst (-1), 1) := sorry
theorem dX10_greatestWake_21 : decode cX10_greatestWake 21 = .ok (.if_icmp .eq 5, 3) := sorry
theorem dX10_greatestWake_26 : decode cX10_greatestWake 26 = .ok (.iinc 2 (-1), 3) := sorry
theorem dX10_greatestWake_29 : decode cX10_greatestWake 29 = .ok (.goto (-20), 3) := sorry
theorem dX10_greatestWake_24 : decode cX10_greatestWake 24 = .ok (.iload_n 2, 1) := sorry
theorem dX10_greatestWake_25 : decode cX10_greatestWake 25 = .ok (.ireturn, 1) := sorry
set_option maxHeartbeats 4000000 in
set_option maxRecDepth 100000 in
theorem k_X10_greatestWake (l : Launch) (D : va_G) (cy : Nat → ClassId) (ld : Nat → Nat) (t : tk_T) (a0 : Nat) (p1 : Int32) (ht_a0 : t a0 = (11, 0, 0)) : Met l yX10_greatestWake (wl yX10_greatestWake cX10_greatestWake 3 (some .int)) ({ frames := 9, cells := 0, slots := 0, locals := 560 }) (tp D cy ld t [] [.ref a0, .int p1] (fun H => True)) (ti D cy ld t [] (fun r H => (-1) ≤ r.toInt ∧ r.toInt ≤ 999) (tk_w t [(20, 0, 0), (12, 0, 0), (9, 0, 0)])) 0 0 (tk_w t [(20, 0, 0), (12, 0, 0), (9, 0, 0)]) := by sorry
theorem dX10_howMany_0 : decode cX10_howMany 0 = .ok (.aload_n 0, 1) := sorry
theorem dX10_howMany_1 : decode cX10_howMany 1 = .ok (.iload_n 1, 1) := sorry
theorem dX10_howMany_2 : decode cX10_howMany 2 = .ok (.invokevirtual 23, 3) := sorry
theorem dX10_howMany_5 : decode cX10_howMany 5 = .ok (.iconst 0, 1) := sorry
theorem dX10_howMany_6 : decode cX10_howMany 6 = .ok (.istore_n 2, 1) := sorry
theorem dX10_howMany_7 : decode cX10_howMany 7 = .ok (.iconst 1, 1) := sorry
theorem dX10_howMany_8 : decode cX10_howMany 8 = .ok (.istore_n 3, 1) := sorry
theorem dX10_howMany_9 : decode cX10_howMany 9 = .ok (.iload_n 3, 1) := sorry
theorem dX10_howMany_10 : decode cX10_howMany 10 = .ok (.sipush 999, 3) := sorry
theorem dX10_howMany_13 : decode cX10_howMany 13 = .ok (.if_icmp .gt 22, 3) := sorry
theorem dX10_howMany_35 : decode cX10_howMany 35 = .ok (.iload_n 2, 1) := sorry
theorem dX10_howMany_36 : decode cX10_howMany 36 = .ok (.ireturn, 1) := sorry
theorem dX10_howMany_16 : decode cX10_howMany 16 = .ok (.aload_n 0, 1) := sorry
theorem dX10_howMany_17 : decode cX10_howMany 17 = .ok (.getfield 9, 3) := sorry
theorem dX10_howMany_20 : decode cX10_howMany 20 = .ok (.iload_n 3, 1) := sorry
theorem dX10_howMany_21 : decode cX10_howMany 21 = .ok (.iaload, 1) := sorry
theorem dX10_howMany_22 : decode cX10_howMany 22 = .ok (.iconst (-1), 1) := sorry
theorem dX10_howMany_29 : decode cX10_howMany 29 = .ok (.iinc 3 1, 3) := sorry
theorem dX10_howMany_32 : decode cX10_howMany 32 = .ok (.goto (-23), 3) := sorry
theorem dX10_howMany_23 : decode cX10_howMany 23 = .ok (.if_icmp .eq 6, 3) := sorry
theorem dX10_howMany_26 : decode cX10_howMany 26 = .ok (.iinc 2 1, 3) := sorry
set_option maxHeartbeats 4000000 in
set_option maxRecDepth 100000 in
theorem k_X10_howMany (l : Launch) (D : va_G) (cy : Nat → ClassId) (ld : Nat → Nat) (t : tk_T) (a0 : Nat) (p1 : Int32) (ht_a0 : t a0 = (11, 0, 0)) : Met l yX10_howMany (wl yX10_howMany cX10_howMany 4 (some .int)) ({ frames := 9, cells := 0, slots := 0, locals := 560 }) (tp D cy ld t [] [.ref a0, .int p1] (fun H => True)) (ti D cy ld t [] (fun r H => 0 ≤ r.toInt ∧ r.toInt ≤ 999) (tk_w t [(20, 0, 0), (12, 0, 0), (9, 0, 0)])) 0 0 (tk_w t [(20, 0, 0), (12, 0, 0), (9, 0, 0)]) := by sorry
theorem dX10_howManySleep_0 : decode cX10_howManySleep 0 = .ok (.aload_n 0, 1) := sorry
theorem dX10_howManySleep_1 : decode cX10_howManySleep 1 = .ok (.getfield 19, 3) := sorry
theorem dX10_howManySleep_4 : decode cX10_howManySleep 4 = .ok (.invokevirtual 59, 3) := sorry
theorem dX10_howManySleep_7 : decode cX10_howManySleep 7 = .ok (.istore_n 1, 1) := sorry
theorem dX10_howManySleep_8 : decode cX10_howManySleep 8 = .ok (.aload_n 0, 1) := sorry
theorem dX10_howManySleep_9 : decode cX10_howManySleep 9 = .ok (.getfield 19, 3) := sorry
theorem dX10_howManySleep_12 : decode cX10_howManySleep 12 = .ok (.sipush 999, 3) := sorry
theorem dX10_howManySleep_15 : decode cX10_howManySleep 15 = .ok (.invokevirtual 63, 3) := sorry
theorem dX10_howManySleep_18 : decode cX10_howManySleep 18 = .ok (.istore_n 2, 1) := sorry
theorem dX10_howManySleep_19 : decode cX10_howManySleep 19 = .ok (.iconst 0, 1) := sorry
theorem dX10_howManySleep_20 : decode cX10_howManySleep 20 = .ok (.istore_n 3, 1) := sorry
theorem dX10_howManySleep_21 : decode cX10_howManySleep 21 = .ok (.iconst 1, 1) := sorry
theorem dX10_howManySleep_22 : decode cX10_howManySleep 22 = .ok (.istore 4, 2) := sorry
theorem dX10_howManySleep_24 : decode cX10_howManySleep 24 = .ok (.iload 4, 2) := sorry
theorem dX10_howManySleep_26 : decode cX10_howManySleep 26 = .ok (.sipush 999, 3) := sorry
theorem dX10_howManySleep_29 : decode cX10_howManySleep 29 = .ok (.if_icmp .gt 54, 3) := sorry
theorem dX10_howManySleep_83 : decode cX10_howManySleep 83 = .ok (.iload_n 3, 1) := sorry
theorem dX10_howManySleep_84 : decode cX10_howManySleep 84 = .ok (.ireturn, 1) := sorry
theorem dX10_howManySleep_32 : decode cX10_howManySleep 32 = .ok (.aload_n 0, 1) := sorry
theorem dX10_howManySleep_33 : decode cX10_howManySleep 33 = .ok (.getfield 9, 3) := sorry
theorem dX10_howManySleep_36 : decode cX10_howManySleep 36 = .ok (.iload 4, 2) := sorry
theorem dX10_howManySleep_38 : decode cX10_howManySleep 38 = .ok (.iaload, 1) := sorry
theorem dX10_howManySleep_77 : decode cX10_howManySleep 77 = .ok (.iinc 4 1, 3) := sorry
theorem dX10_howManySleep_80 : decode cX10_howManySleep 80 = .ok (.goto (-56), 3) := sorry
theorem dX10_howManySleep_39 : decode cX10_howManySleep 39 = .ok (.ifCond .le 38, 3) := sorry
theorem dX10_howManySleep_42 : decode cX10_howManySleep 42 = .ok (.aload_n 0, 1) := sorry
theorem dX10_howManySleep_43 : decode cX10_howManySleep 43 = .ok (.getfield 9, 3) := sorry
theorem dX10_howManySleep_46 : decode cX10_howManySleep 46 = .ok (.iload 4, 2) := sorry
theorem dX10_howManySleep_48 : decode cX10_howManySleep 48 = .ok (.iaload, 1) := sorry
theorem dX10_howManySleep_49 : decode cX10_howManySleep 49 = .ok (.iload_n 1, 1) := sorry
theorem dX10_howManySleep_71 : decode cX10_howManySleep 71 = .ok (.if_icmp .gt 6, 3) := sorry
theorem dX10_howManySleep_74 : decode cX10_howManySleep 74 = .ok (.iinc 3 1, 3) := sorry
theorem dX10_howManySleep_50 : decode cX10_howManySleep 50 = .ok (.ifCond .eq 20, 3) := sorry
theorem dX10_howManySleep_70 : decode cX10_howManySleep 70 = .ok (.iload_n 2, 1) := sorry
theorem dX10_howManySleep_53 : decode cX10_howManySleep 53 = .ok (.aload_n 0, 1) := sorry
theorem dX10_howManySleep_54 : decode cX10_howManySleep 54 = .ok (.getfield 19, 3) := sorry
theorem dX10_howManySleep_57 : decode cX10_howManySleep 57 = .ok (.aload_n 0, 1) := sorry
theorem dX10_howManySleep_58 : decode cX10_howManySleep 58 = .ok (.getfield 9, 3) := sorry
theorem dX10_howManySleep_61 : decode cX10_howManySleep 61 = .ok (.iload 4, 2) := sorry
theorem dX10_howManySleep_63 : decode cX10_howManySleep 63 = .ok (.iaload, 1) := sorry
theorem dX10_howManySleep_64 : decode cX10_howManySleep 64 = .ok (.invokevirtual 63, 3) := sorry
theorem dX10_howManySleep_67 : decode cX10_howManySleep 67 = .ok (.goto 4, 3) := sorry
set_option maxHeartbeats 4000000 in
set_option maxRecDepth 100000 in
theorem k_X10_howManySleep (l : Launch) (D : va_G) (cy : Nat → ClassId) (ld : Nat → Nat) (t : tk_T) (a0 : Nat) (ht_a0 : t a0 = (11, 0, 0)) : Met l yX10_howManySleep (wl yX10_howManySleep cX10_howManySleep 5 (some .int)) ({ frames := 7, cells := 0, slots := 0, locals := 420 }) (tp D cy ld t [] [.ref a0] (fun H => True)) (ti D cy ld t [] (fun r H => 0 ≤ r.toInt ∧ r.toInt ≤ 999) (tk_w t [(20, 0, 0), (12, 0, 0), (9, 0, 0)])) 0 0 (tk_w t [(20, 0, 0), (12, 0, 0), (9, 0, 0)]) := by sorry
theorem dX10_nextVerse_0 : decode cX10_nextVerse 0 = .ok (.aload_n 0, 1) := sorry
theorem dX10_nextVerse_1 : decode cX10_nextVerse 1 = .ok (.iload_n 1, 1) := sorry
theorem dX10_nextVerse_2 : decode cX10_nextVerse 2 = .ok (.invokevirtual 23, 3) := sorry
theorem dX10_nextVerse_5 : decode cX10_nextVerse 5 = .ok (.iconst 0, 1) := sorry
theorem dX10_nextVerse_6 : decode cX10_nextVerse 6 = .ok (.istore_n 3, 1) := sorry
theorem dX10_nextVerse_7 : decode cX10_nextVerse 7 = .ok (.iconst 1, 1) := sorry
theorem dX10_nextVerse_8 : decode cX10_nextVerse 8 = .ok (.istore 4, 2) := sorry
theorem dX10_nextVerse_10 : decode cX10_nextVerse 10 = .ok (.iload 4, 2) := sorry
theorem dX10_nextVerse_12 : decode cX10_nextVerse 12 = .ok (.sipush 999, 3) := sorry
theorem dX10_nextVerse_15 : decode cX10_nextVerse 15 = .ok (.if_icmp .gt 22, 3) := sorry
theorem dX10_nextVerse_37 : decode cX10_nextVerse 37 = .ok (.iconst (-1), 1) := sorry
theorem dX10_nextVerse_38 : decode cX10_nextVerse 38 = .ok (.istore 4, 2) := sorry
theorem dX10_nextVerse_40 : decode cX10_nextVerse 40 = .ok (.sipush 1000, 3) := sorry
theorem dX10_nextVerse_43 : decode cX10_nextVerse 43 = .ok (.istore 5, 2) := sorry
theorem dX10_nextVerse_45 : decode cX10_nextVerse 45 = .ok (.iconst 0, 1) := sorry
theorem dX10_nextVerse_46 : decode cX10_nextVerse 46 = .ok (.istore 6, 2) := sorry
theorem dX10_nextVerse_48 : decode cX10_nextVerse 48 = .ok (.iload 6, 2) := sorry
theorem dX10_nextVerse_50 : decode cX10_nextVerse 50 = .ok (.aload_n 0, 1) := sorry
theorem dX10_nextVerse_51 : decode cX10_nextVerse 51 = .ok (.getfield 15, 3) := sorry
theorem dX10_nextVerse_54 : decode cX10_nextVerse 54 = .ok (.getfield 27, 3) := sorry
theorem dX10_nextVerse_115 : decode cX10_nextVerse 115 = .ok (.iload 4, 2) := sorry
theorem dX10_nextVerse_117 : decode cX10_nextVerse 117 = .ok (.ireturn, 1) := sorry
theorem dX10_nextVerse_57 : decode cX10_nextVerse 57 = .ok (.if_icmp .ge 58, 3) := sorry
theorem dX10_nextVerse_60 : decode cX10_nextVerse 60 = .ok (.iload_n 3, 1) := sorry
theorem dX10_nextVerse_61 : decode cX10_nextVerse 61 = .ok (.ifCond .le 54, 3) := sorry
theorem dX10_nextVerse_64 : decode cX10_nextVerse 64 = .ok (.aload_n 0, 1) := sorry
theorem dX10_nextVerse_65 : decode cX10_nextVerse 65 = .ok (.getfield 19, 3) := sorry
theorem dX10_nextVerse_68 : decode cX10_nextVerse 68 = .ok (.iload 6, 2) := sorry
theorem dX10_nextVerse_70 : decode cX10_nextVerse 70 = .ok (.iload_n 2, 1) := sorry
theorem dX10_nextVerse_71 : decode cX10_nextVerse 71 = .ok (.iconst 0, 1) := sorry
theorem dX10_nextVerse_72 : decode cX10_nextVerse 72 = .ok (.iconst 0, 1) := sorry
theorem dX10_nextVerse_73 : decode cX10_nextVerse 73 = .ok (.iload_n 1, 1) := sorry
theorem dX10_nextVerse_74 : decode cX10_nextVerse 74 = .ok (.invokevirtual 33, 3) := sorry
theorem dX10_nextVerse_77 : decode cX10_nextVerse 77 = .ok (.aload_n 0, 1) := sorry
theorem dX10_nextVerse_78 : decode cX10_nextVerse 78 = .ok (.invokevirtual 39, 3) := sorry
theorem dX10_nextVerse_81 : decode cX10_nextVerse 81 = .ok (.istore 7, 2) := sorry
theorem dX10_nextVerse_83 : decode cX10_nextVerse 83 = .ok (.iload 7, 2) := sorry
theorem dX10_nextVerse_85 : decode cX10_nextVerse 85 = .ok (.iload_n 3, 1) := sorry
theorem dX10_nextVerse_86 : decode cX10_nextVerse 86 = .ok (.iload 7, 2) := sorry
theorem dX10_nextVerse_88 : decode cX10_nextVerse 88 = .ok (.isub, 1) := sorry
theorem dX10_nextVerse_89 : decode cX10_nextVerse 89 = .ok (.invokestatic 43, 3) := sorry
theorem dX10_nextVerse_92 : decode cX10_nextVerse 92 = .ok (.istore 8, 2) := sorry
theorem dX10_nextVerse_94 : decode cX10_nextVerse 94 = .ok (.iload 8, 2) := sorry
theorem dX10_nextVerse_96 : decode cX10_nextVerse 96 = .ok (.iload 5, 2) := sorry
theorem dX10_nextVerse_109 : decode cX10_nextVerse 109 = .ok (.iinc 6 1, 3) := sorry
theorem dX10_nextVerse_112 : decode cX10_nextVerse 112 = .ok (.goto (-64), 3) := sorry
theorem dX10_nextVerse_98 : decode cX10_nextVerse 98 = .ok (.if_icmp .ge 11, 3) := sorry
theorem dX10_nextVerse_101 : decode cX10_nextVerse 101 = .ok (.iload 8, 2) := sorry
theorem dX10_nextVerse_103 : decode cX10_nextVerse 103 = .ok (.istore 5, 2) := sorry
theorem dX10_nextVerse_105 : decode cX10_nextVerse 105 = .ok (.iload 6, 2) := sorry
theorem dX10_nextVerse_107 : decode cX10_nextVerse 107 = .ok (.istore 4, 2) := sorry
theorem dX10_nextVerse_18 : decode cX10_nextVerse 18 = .ok (.aload_n 0, 1) := sorry
theorem dX10_nextVerse_19 : decode cX10_nextVerse 19 = .ok (.getfield 9, 3) := sorry
theorem dX10_nextVerse_22 : decode cX10_nextVerse 22 = .ok (.iload 4, 2) := sorry
theorem dX10_nextVerse_24 : decode cX10_nextVerse 24 = .ok (.iaload, 1) := sorry
theorem dX10_nextVerse_31 : decode cX10_nextVerse 31 = .ok (.iinc 4 1, 3) := sorry
theorem dX10_nextVerse_34 : decode cX10_nextVerse 34 = .ok (.goto (-24), 3) := sorry
theorem dX10_nextVerse_25 : decode cX10_nextVerse 25 = .ok (.ifCond .le 6, 3) := sorry
theorem dX10_nextVerse_28 : decode cX10_nextVerse 28 = .ok (.iinc 3 1, 3) := sorry
set_option maxHeartbeats 4000000 in
set_option maxRecDepth 100000 in
theorem k_X10_nextVerse (l : Launch) (D : va_G) (cy : Nat → ClassId) (ld : Nat → Nat) (t : tk_T) (a0 : Nat) (p1 : Int32) (p2 : Int32) (ht_a0 : t a0 = (11, 0, 0)) (hp_0 : 0 ≤ p2.toInt) (hp_1 : p2.toInt ≤ 7) : Met l yX10_nextVerse (wl yX10_nextVerse cX10_nextVerse 9 (some .int)) ({ frames := 9, cells := 0, slots := 0, locals := 560 }) (tp D cy ld t [] [.ref a0, .int p1, .int p2] (fun H => True)) (ti D cy ld t [] (fun r H => (-1) ≤ r.toInt ∧ r.toInt ≤ 9) (tk_w t [(20, 0, 0), (12, 0, 0), (9, 0, 0)])) 0 0 (tk_w t [(20, 0, 0), (12, 0, 0), (9, 0, 0)]) := by sorry
theorem dX12_accept_0 : decode cX12_accept 0 = .ok (.aload_n 0, 1) := sorry
theorem dX12_accept_1 : decode cX12_accept 1 = .ok (.iconst 0, 1) := sorry
theorem dX12_accept_2 : decode cX12_accept 2 = .ok (.putfield 355, 3) := sorry
theorem dX12_accept_5 : decode cX12_accept 5 = .ok (.iload_n 1, 1) := sorry
theorem dX12_accept_6 : decode cX12_accept 6 = .ok (.ireturn, 1) := sorry
set_option maxHeartbeats 4000000 in
set_option maxRecDepth 100000 in
theorem k_X12_accept (l : Launch) (D : va_G) (cy : Nat → ClassId) (ld : Nat → Nat) (t : tk_T) (a0 : Nat) (p1 : Int32) (ht_a0 : t a0 = (13, 0, 0)) : Met l yX12_accept (wl yX12_accept cX12_accept 2 (some .int)) ({ frames := 3, cells := 0, slots := 0, locals := 140 }) (tp D cy ld t [] [.ref a0, .int p1] (fun H => True)) (ti D cy ld t [] (fun r H => True) (tk_w t [(13, 0, 0)])) 0 0 (tk_w t [(13, 0, 0)]) := by sorry
theorem dX12_refuse_0 : decode cX12_refuse 0 = .ok (.aload_n 0, 1) := sorry
theorem dX12_refuse_1 : decode cX12_refuse 1 = .ok (.iload_n 1, 1) := sorry
theorem dX12_refuse_2 : decode cX12_refuse 2 = .ok (.putfield 355, 3) := sorry
theorem dX12_refuse_5 : decode cX12_refuse 5 = .ok (.iload_n 1, 1) := sorry
theorem dX12_refuse_6 : decode cX12_refuse 6 = .ok (.bipush (-3), 2) := sorry
theorem dX12_refuse_22 : decode cX12_refuse 22 = .ok (.istore_n 2, 1) := sorry
theorem dX12_refuse_23 : decode cX12_refuse 23 = .ok (.iload_n 2, 1) := sorry
theorem dX12_refuse_24 : decode cX12_refuse 24 = .ok (.iconst 0, 1) := sorry
theorem dX12_refuse_25 : decode cX12_refuse 25 = .ok (.aload_n 0, 1) := sorry
theorem dX12_refuse_26 : decode cX12_refuse 26 = .ok (.getfield 96, 3) := sorry
theorem dX12_refuse_29 : decode cX12_refuse 29 = .ok (.arraylength, 1) := sorry
theorem dX12_refuse_30 : decode cX12_refuse 30 = .ok (.iconst 1, 1) := sorry
theorem dX12_refuse_31 : decode cX12_refuse 31 = .ok (.isub, 1) := sorry
theorem dX12_refuse_32 : decode cX12_refuse 32 = .ok (.invokestatic 146, 3) := sorry
theorem dX12_refuse_48 : decode cX12_refuse 48 = .ok (.iload_n 1, 1) := sorry
theorem dX12_refuse_49 : decode cX12_refuse 49 = .ok (.ireturn, 1) := sorry
theorem dX12_refuse_35 : decode cX12_refuse 35 = .ok (.ifCond .eq 13, 3) := sorry
theorem dX12_refuse_38 : decode cX12_refuse 38 = .ok (.aload_n 0, 1) := sorry
theorem dX12_refuse_39 : decode cX12_refuse 39 = .ok (.getfield 96, 3) := sorry
theorem dX12_refuse_42 : decode cX12_refuse 42 = .ok (.iload_n 2, 1) := sorry
theorem dX12_refuse_43 : decode cX12_refuse 43 = .ok (.dup2, 1) := sorry
theorem dX12_refuse_44 : decode cX12_refuse 44 = .ok (.iaload, 1) := sorry
theorem dX12_refuse_45 : decode cX12_refuse 45 = .ok (.iconst 1, 1) := sorry
theorem dX12_refuse_46 : decode cX12_refuse 46 = .ok (.iadd, 1) := sorry
theorem dX12_refuse_47 : decode cX12_refuse 47 = .ok (.iastore, 1) := sorry
theorem dX12_refuse_8 : decode cX12_refuse 8 = .ok (.if_icmp .lt 10, 3) := sorry
theorem dX12_refuse_18 : decode cX12_refuse 18 = .ok (.iload_n 1, 1) := sorry
theorem dX12_refuse_19 : decode cX12_refuse 19 = .ok (.ineg, 1) := sorry
theorem dX12_refuse_20 : decode cX12_refuse 20 = .ok (.iconst 2, 1) := sorry
theorem dX12_refuse_21 : decode cX12_refuse 21 = .ok (.isub, 1) := sorry
theorem dX12_refuse_11 : decode cX12_refuse 11 = .ok (.iload_n 1, 1) := sorry
theorem dX12_refuse_12 : decode cX12_refuse 12 = .ok (.ineg, 1) := sorry
theorem dX12_refuse_13 : decode cX12_refuse 13 = .ok (.iconst 1, 1) := sorry
theorem dX12_refuse_14 : decode cX12_refuse 14 = .ok (.isub, 1) := sorry
theorem dX12_refuse_15 : decode cX12_refuse 15 = .ok (.goto 7, 3) := sorry
set_option maxHeartbeats 4000000 in
set_option maxRecDepth 100000 in
theorem k_X12_refuse (l : Launch) (D : va_G) (cy : Nat → ClassId) (ld : Nat → Nat) (t : tk_T) (a0 : Nat) (p1 : Int32) (ht_a0 : t a0 = (13, 0, 0)) : Met l yX12_refuse (wl yX12_refuse cX12_refuse 3 (some .int)) ({ frames := 4, cells := 0, slots := 0, locals := 210 }) (tp D cy ld t [] [.ref a0, .int p1] (fun H => True)) (ti D cy ld t [] (fun r H => True) (tk_w t [(13, 0, 0), (20, 0, 0)])) 0 0 (tk_w t [(13, 0, 0), (20, 0, 0)]) := by sorry
theorem dX12_tell_0 : decode cX12_tell 0 = .ok (.iload_n 1, 1) := sorry
theorem dX12_tell_1 : decode cX12_tell 1 = .ok (.ifCond .ge 11, 3) := sorry
theorem dX12_tell_12 : decode cX12_tell 12 = .ok (.aload_n 0, 1) := sorry
theorem dX12_tell_13 : decode cX12_tell 13 = .ok (.iload_n 1, 1) := sorry
theorem dX12_tell_14 : decode cX12_tell 14 = .ok (.invokevirtual 165, 3) := sorry
theorem dX12_tell_17 : decode cX12_tell 17 = .ok (.ireturn, 1) := sorry
theorem dX12_tell_4 : decode cX12_tell 4 = .ok (.aload_n 0, 1) := sorry
theorem dX12_tell_5 : decode cX12_tell 5 = .ok (.iload_n 1, 1) := sorry
theorem dX12_tell_6 : decode cX12_tell 6 = .ok (.invokevirtual 159, 3) := sorry
theorem dX12_tell_9 : decode cX12_tell 9 = .ok (.goto 8, 3) := sorry
set_option maxHeartbeats 4000000 in
set_option maxRecDepth 100000 in
theorem k_X12_tell (l : Launch) (D : va_G) (cy : Nat → ClassId) (ld : Nat → Nat) (t : tk_T) (a0 : Nat) (p1 : Int32) (ht_a0 : t a0 = (13, 0, 0)) : Met l yX12_tell (wl yX12_tell cX12_tell 2 (some .int)) ({ frames := 5, cells := 0, slots := 0, locals := 280 }) (tp D cy ld t [] [.ref a0, .int p1] (fun H => True)) (ti D cy ld t [] (fun r H => True) (tk_w t [(13, 0, 0), (20, 0, 0)])) 0 0 (tk_w t [(13, 0, 0), (20, 0, 0)]) := by sorry
theorem dX12_singer_0 : decode cX12_singer 0 = .ok (.aload_n 0, 1) := sorry
theorem dX12_singer_1 : decode cX12_singer 1 = .ok (.getfield 10, 3) := sorry
theorem dX12_singer_4 : decode cX12_singer 4 = .ok (.iload_n 1, 1) := sorry
theorem dX12_singer_5 : decode cX12_singer 5 = .ok (.iload_n 2, 1) := sorry
theorem dX12_singer_6 : decode cX12_singer 6 = .ok (.iload_n 3, 1) := sorry
theorem dX12_singer_7 : decode cX12_singer 7 = .ok (.invokevirtual 103, 3) := sorry
theorem dX12_singer_10 : decode cX12_singer 10 = .ok (.istore 4, 2) := sorry
theorem dX12_singer_12 : decode cX12_singer 12 = .ok (.iload 4, 2) := sorry
theorem dX12_singer_24 : decode cX12_singer 24 = .ok (.aload_n 0, 1) := sorry
theorem dX12_singer_25 : decode cX12_singer 25 = .ok (.iload 4, 2) := sorry
theorem dX12_singer_27 : decode cX12_singer 27 = .ok (.invokevirtual 110, 3) := sorry
theorem dX12_singer_30 : decode cX12_singer 30 = .ok (.ireturn, 1) := sorry
theorem dX12_singer_14 : decode cX12_singer 14 = .ok (.ifCond .lt 10, 3) := sorry
theorem dX12_singer_17 : decode cX12_singer 17 = .ok (.aload_n 0, 1) := sorry
theorem dX12_singer_18 : decode cX12_singer 18 = .ok (.getfield 38, 3) := sorry
theorem dX12_singer_21 : decode cX12_singer 21 = .ok (.invokevirtual 107, 3) := sorry
set_option maxHeartbeats 4000000 in
set_option maxRecDepth 100000 in
theorem k_X12_singer (l : Launch) (D : va_G) (cy : Nat → ClassId) (ld : Nat → Nat) (t : tk_T) (a0 : Nat) (p1 : Int32) (p2 : Int32) (p3 : Int32) (ht_a0 : t a0 = (13, 0, 0)) : Met l yX12_singer (wl yX12_singer cX12_singer 5 (some .int)) ({ frames := 6, cells := 0, slots := 0, locals := 350 }) (tp D cy ld t [] [.ref a0, .int p1, .int p2, .int p3] (fun H => True)) (ti D cy ld t [] (fun r H => True) (tk_w t [(20, 0, 0), (21, 0, 0), (32, 0, 0), (3, 0, 0), (2, 0, 0), (13, 0, 0)])) 0 0 (tk_w t [(20, 0, 0), (21, 0, 0), (32, 0, 0), (3, 0, 0), (2, 0, 0), (13, 0, 0)]) := by sorry
end

section
theorem dX12_of_0 : decode cX12_of 0 = .ok (.aload_n 0, 1) := sorry
theorem dX12_of_1 : decode cX12_of 1 = .ok (.getfield 10, 3) := sorry
theorem dX12_of_4 : decode cX12_of 4 = .ok (.iload_n 1, 1) := sorry
theorem dX12_of_5 : decode cX12_of 5 = .ok (.invokevirtual 114, 3) := sorry
theorem dX12_of_8 : decode cX12_of 8 = .ok (.ifCond .ne 5, 3) := sorry
theorem dX12_of_13 : decode cX12_of 13 = .ok (.iload_n 2, 1) := sorry
theorem dX12_of_14 : decode cX12_of 14 = .ok (.tableswitch 93 0 4 #[34, 47, 57, 67, 80], 34) := sorry
theorem dX12_of_48 : decode cX12_of 48 = .ok (.aload_n 0, 1) := sorry
theorem dX12_of_49 : decode cX12_of 49 = .ok (.getfield 10, 3) := sorry
theorem dX12_of_52 : decode cX12_of 52 = .ok (.getfield 118, 3) := sorry
theorem dX12_of_55 : decode cX12_of 55 = .ok (.getfield 122, 3) := sorry
theorem dX12_of_58 : decode cX12_of 58 = .ok (.iload_n 1, 1) := sorry
theorem dX12_of_59 : decode cX12_of 59 = .ok (.iaload, 1) := sorry
theorem dX12_of_60 : decode cX12_of 60 = .ok (.ireturn, 1) := sorry
theorem dX12_of_61 : decode cX12_of 61 = .ok (.aload_n 0, 1) := sorry
theorem dX12_of_62 : decode cX12_of 62 = .ok (.getfield 10, 3) := sorry
theorem dX12_of_65 : decode cX12_of 65 = .ok (.getfield 127, 3) := sorry
theorem dX12_of_68 : decode cX12_of 68 = .ok (.iload_n 1, 1) := sorry
theorem dX12_of_69 : decode cX12_of 69 = .ok (.iaload, 1) := sorry
theorem dX12_of_70 : decode cX12_of 70 = .ok (.ireturn, 1) := sorry
theorem dX12_of_71 : decode cX12_of 71 = .ok (.aload_n 0, 1) := sorry
theorem dX12_of_72 : decode cX12_of 72 = .ok (.getfield 10, 3) := sorry
theorem dX12_of_75 : decode cX12_of 75 = .ok (.getfield 130, 3) := sorry
theorem dX12_of_78 : decode cX12_of 78 = .ok (.iload_n 1, 1) := sorry
theorem dX12_of_79 : decode cX12_of 79 = .ok (.iaload, 1) := sorry
theorem dX12_of_80 : decode cX12_of 80 = .ok (.ireturn, 1) := sorry
theorem dX12_of_81 : decode cX12_of 81 = .ok (.aload_n 0, 1) := sorry
theorem dX12_of_82 : decode cX12_of 82 = .ok (.getfield 10, 3) := sorry
theorem dX12_of_85 : decode cX12_of 85 = .ok (.getfield 118, 3) := sorry
theorem dX12_of_88 : decode cX12_of 88 = .ok (.getfield 133, 3) := sorry
theorem dX12_of_91 : decode cX12_of 91 = .ok (.iload_n 1, 1) := sorry
theorem dX12_of_92 : decode cX12_of 92 = .ok (.iaload, 1) := sorry
theorem dX12_of_93 : decode cX12_of 93 = .ok (.ireturn, 1) := sorry
theorem dX12_of_94 : decode cX12_of 94 = .ok (.aload_n 0, 1) := sorry
theorem dX12_of_95 : decode cX12_of 95 = .ok (.getfield 10, 3) := sorry
theorem dX12_of_98 : decode cX12_of 98 = .ok (.getfield 118, 3) := sorry
theorem dX12_of_101 : decode cX12_of 101 = .ok (.getfield 136, 3) := sorry
theorem dX12_of_104 : decode cX12_of 104 = .ok (.iload_n 1, 1) := sorry
theorem dX12_of_105 : decode cX12_of 105 = .ok (.iaload, 1) := sorry
theorem dX12_of_106 : decode cX12_of 106 = .ok (.ireturn, 1) := sorry
theorem dX12_of_107 : decode cX12_of 107 = .ok (.iconst (-1), 1) := sorry
theorem dX12_of_108 : decode cX12_of 108 = .ok (.ireturn, 1) := sorry
theorem dX12_of_11 : decode cX12_of 11 = .ok (.iconst (-1), 1) := sorry
theorem dX12_of_12 : decode cX12_of 12 = .ok (.ireturn, 1) := sorry
set_option maxHeartbeats 4000000 in
set_option maxRecDepth 100000 in
theorem k_X12_of (l : Launch) (D : va_G) (cy : Nat → ClassId) (ld : Nat → Nat) (t : tk_T) (a0 : Nat) (p1 : Int32) (p2 : Int32) (ht_a0 : t a0 = (13, 0, 0)) : Met l yX12_of (wl yX12_of cX12_of 3 (some .int)) ({ frames := 4, cells := 0, slots := 0, locals := 210 }) (tp D cy ld t [] [.ref a0, .int p1, .int p2] (fun H => True)) (ti D cy ld t [] (fun r H => True) (tk_w t [])) 0 0 (tk_w t []) := by sorry
theorem dX12_verse_0 : decode cX12_verse 0 = .ok (.aload_n 0, 1) := sorry
theorem dX12_verse_1 : decode cX12_verse 1 = .ok (.aload_n 0, 1) := sorry
theorem dX12_verse_2 : decode cX12_verse 2 = .ok (.getfield 10, 3) := sorry
theorem dX12_verse_5 : decode cX12_verse 5 = .ok (.iload_n 1, 1) := sorry
theorem dX12_verse_6 : decode cX12_verse 6 = .ok (.iload_n 2, 1) := sorry
theorem dX12_verse_7 : decode cX12_verse 7 = .ok (.invokevirtual 139, 3) := sorry
theorem dX12_verse_10 : decode cX12_verse 10 = .ok (.invokevirtual 110, 3) := sorry
theorem dX12_verse_13 : decode cX12_verse 13 = .ok (.ireturn, 1) := sorry
set_option maxHeartbeats 4000000 in
set_option maxRecDepth 100000 in
theorem k_X12_verse (l : Launch) (D : va_G) (cy : Nat → ClassId) (ld : Nat → Nat) (t : tk_T) (a0 : Nat) (p1 : Int32) (p2 : Int32) (ht_a0 : t a0 = (13, 0, 0)) : Met l yX12_verse (wl yX12_verse cX12_verse 3 (some .int)) ({ frames := 6, cells := 0, slots := 0, locals := 350 }) (tp D cy ld t [] [.ref a0, .int p1, .int p2] (fun H => True)) (ti D cy ld t [] (fun r H => True) (tk_w t [(33, 0, 0), (34, 0, 0), (3, 0, 0), (13, 0, 0), (20, 0, 0)])) 0 0 (tk_w t [(33, 0, 0), (34, 0, 0), (3, 0, 0), (13, 0, 0), (20, 0, 0)]) := by sorry
theorem dX12_at_0 : decode cX12_at 0 = .ok (.aload_n 0, 1) := sorry
theorem dX12_at_1 : decode cX12_at 1 = .ok (.getfield 10, 3) := sorry
theorem dX12_at_4 : decode cX12_at 4 = .ok (.iload_n 1, 1) := sorry
theorem dX12_at_5 : decode cX12_at 5 = .ok (.invokevirtual 143, 3) := sorry
theorem dX12_at_8 : decode cX12_at 8 = .ok (.ifCond .eq 12, 3) := sorry
theorem dX12_at_20 : decode cX12_at 20 = .ok (.iconst (-1), 1) := sorry
theorem dX12_at_21 : decode cX12_at 21 = .ok (.ireturn, 1) := sorry
theorem dX12_at_11 : decode cX12_at 11 = .ok (.iload_n 2, 1) := sorry
theorem dX12_at_12 : decode cX12_at 12 = .ok (.iconst 0, 1) := sorry
theorem dX12_at_13 : decode cX12_at 13 = .ok (.iconst 1, 1) := sorry
theorem dX12_at_14 : decode cX12_at 14 = .ok (.invokestatic 146, 3) := sorry
theorem dX12_at_17 : decode cX12_at 17 = .ok (.ifCond .ne 5, 3) := sorry
theorem dX12_at_22 : decode cX12_at 22 = .ok (.iload_n 2, 1) := sorry
theorem dX12_at_23 : decode cX12_at 23 = .ok (.ifCond .ne 15, 3) := sorry
theorem dX12_at_38 : decode cX12_at 38 = .ok (.aload_n 0, 1) := sorry
theorem dX12_at_39 : decode cX12_at 39 = .ok (.getfield 10, 3) := sorry
theorem dX12_at_42 : decode cX12_at 42 = .ok (.getfield 153, 3) := sorry
theorem dX12_at_45 : decode cX12_at 45 = .ok (.iload_n 1, 1) := sorry
theorem dX12_at_46 : decode cX12_at 46 = .ok (.iaload, 1) := sorry
theorem dX12_at_47 : decode cX12_at 47 = .ok (.ireturn, 1) := sorry
theorem dX12_at_26 : decode cX12_at 26 = .ok (.aload_n 0, 1) := sorry
theorem dX12_at_27 : decode cX12_at 27 = .ok (.getfield 10, 3) := sorry
theorem dX12_at_30 : decode cX12_at 30 = .ok (.getfield 150, 3) := sorry
theorem dX12_at_33 : decode cX12_at 33 = .ok (.iload_n 1, 1) := sorry
theorem dX12_at_34 : decode cX12_at 34 = .ok (.iaload, 1) := sorry
theorem dX12_at_35 : decode cX12_at 35 = .ok (.goto 12, 3) := sorry
set_option maxHeartbeats 4000000 in
set_option maxRecDepth 100000 in
theorem k_X12_at (l : Launch) (D : va_G) (cy : Nat → ClassId) (ld : Nat → Nat) (t : tk_T) (a0 : Nat) (p1 : Int32) (p2 : Int32) (ht_a0 : t a0 = (13, 0, 0)) : Met l yX12_at (wl yX12_at cX12_at 3 (some .int)) ({ frames := 4, cells := 0, slots := 0, locals := 210 }) (tp D cy ld t [] [.ref a0, .int p1, .int p2] (fun H => True)) (ti D cy ld t [] (fun r H => True) (tk_w t [])) 0 0 (tk_w t []) := by sorry
theorem dX12_piece_0 : decode cX12_piece 0 = .ok (.aload_n 0, 1) := sorry
theorem dX12_piece_1 : decode cX12_piece 1 = .ok (.aload_n 0, 1) := sorry
theorem dX12_piece_2 : decode cX12_piece 2 = .ok (.getfield 10, 3) := sorry
theorem dX12_piece_5 : decode cX12_piece 5 = .ok (.iload_n 1, 1) := sorry
theorem dX12_piece_6 : decode cX12_piece 6 = .ok (.iload_n 2, 1) := sorry
theorem dX12_piece_7 : decode cX12_piece 7 = .ok (.iload_n 3, 1) := sorry
theorem dX12_piece_8 : decode cX12_piece 8 = .ok (.invokevirtual 156, 3) := sorry
theorem dX12_piece_11 : decode cX12_piece 11 = .ok (.invokevirtual 110, 3) := sorry
theorem dX12_piece_14 : decode cX12_piece 14 = .ok (.ireturn, 1) := sorry
set_option maxHeartbeats 4000000 in
set_option maxRecDepth 100000 in
theorem k_X12_piece (l : Launch) (D : va_G) (cy : Nat → ClassId) (ld : Nat → Nat) (t : tk_T) (a0 : Nat) (p1 : Int32) (p2 : Int32) (p3 : Int32) (ht_a0 : t a0 = (13, 0, 0)) : Met l yX12_piece (wl yX12_piece cX12_piece 4 (some .int)) ({ frames := 6, cells := 0, slots := 0, locals := 350 }) (tp D cy ld t [] [.ref a0, .int p1, .int p2, .int p3] (fun H => True)) (ti D cy ld t [] (fun r H => True) (tk_w t [(35, 0, 0), (36, 0, 0), (37, 0, 0), (3, 0, 0), (13, 0, 0), (20, 0, 0)])) 0 0 (tk_w t [(35, 0, 0), (36, 0, 0), (37, 0, 0), (3, 0, 0), (13, 0, 0), (20, 0, 0)]) := by sorry
theorem dX12_hears_0 : decode cX12_hears 0 = .ok (.iload_n 1, 1) := sorry
theorem dX12_hears_1 : decode cX12_hears 1 = .ok (.iload_n 2, 1) := sorry
theorem dX12_hears_2 : decode cX12_hears 2 = .ok (.if_icmp .eq 12, 3) := sorry
theorem dX12_hears_14 : decode cX12_hears 14 = .ok (.aload_n 0, 1) := sorry
theorem dX12_hears_15 : decode cX12_hears 15 = .ok (.iconst (-1), 1) := sorry
theorem dX12_hears_16 : decode cX12_hears 16 = .ok (.invokevirtual 159, 3) := sorry
theorem dX12_hears_19 : decode cX12_hears 19 = .ok (.ireturn, 1) := sorry
theorem dX12_hears_5 : decode cX12_hears 5 = .ok (.iload_n 3, 1) := sorry
theorem dX12_hears_6 : decode cX12_hears 6 = .ok (.iconst 0, 1) := sorry
theorem dX12_hears_7 : decode cX12_hears 7 = .ok (.iconst 1, 1) := sorry
theorem dX12_hears_8 : decode cX12_hears 8 = .ok (.invokestatic 146, 3) := sorry
theorem dX12_hears_11 : decode cX12_hears 11 = .ok (.ifCond .ne 9, 3) := sorry
theorem dX12_hears_20 : decode cX12_hears 20 = .ok (.aload_n 0, 1) := sorry
theorem dX12_hears_21 : decode cX12_hears 21 = .ok (.getfield 10, 3) := sorry
theorem dX12_hears_24 : decode cX12_hears 24 = .ok (.iload_n 1, 1) := sorry
theorem dX12_hears_25 : decode cX12_hears 25 = .ok (.invokevirtual 114, 3) := sorry
theorem dX12_hears_28 : decode cX12_hears 28 = .ok (.ifCond .eq 14, 3) := sorry
theorem dX12_hears_42 : decode cX12_hears 42 = .ok (.aload_n 0, 1) := sorry
theorem dX12_hears_43 : decode cX12_hears 43 = .ok (.bipush (-2), 2) := sorry
theorem dX12_hears_45 : decode cX12_hears 45 = .ok (.invokevirtual 159, 3) := sorry
theorem dX12_hears_48 : decode cX12_hears 48 = .ok (.ireturn, 1) := sorry
theorem dX12_hears_31 : decode cX12_hears 31 = .ok (.aload_n 0, 1) := sorry
theorem dX12_hears_32 : decode cX12_hears 32 = .ok (.getfield 10, 3) := sorry
theorem dX12_hears_35 : decode cX12_hears 35 = .ok (.iload_n 2, 1) := sorry
theorem dX12_hears_36 : decode cX12_hears 36 = .ok (.invokevirtual 114, 3) := sorry
theorem dX12_hears_39 : decode cX12_hears 39 = .ok (.ifCond .ne 10, 3) := sorry
theorem dX12_hears_49 : decode cX12_hears 49 = .ok (.aload_n 0, 1) := sorry
theorem dX12_hears_50 : decode cX12_hears 50 = .ok (.aload_n 0, 1) := sorry
theorem dX12_hears_51 : decode cX12_hears 51 = .ok (.getfield 10, 3) := sorry
theorem dX12_hears_54 : decode cX12_hears 54 = .ok (.iload_n 1, 1) := sorry
theorem dX12_hears_55 : decode cX12_hears 55 = .ok (.iload_n 2, 1) := sorry
theorem dX12_hears_56 : decode cX12_hears 56 = .ok (.iload_n 3, 1) := sorry
theorem dX12_hears_57 : decode cX12_hears 57 = .ok (.invokevirtual 162, 3) := sorry
theorem dX12_hears_60 : decode cX12_hears 60 = .ok (.invokevirtual 165, 3) := sorry
theorem dX12_hears_63 : decode cX12_hears 63 = .ok (.ireturn, 1) := sorry
set_option maxHeartbeats 4000000 in
set_option maxRecDepth 100000 in
theorem k_X12_hears (l : Launch) (D : va_G) (cy : Nat → ClassId) (ld : Nat → Nat) (t : tk_T) (a0 : Nat) (p1 : Int32) (p2 : Int32) (p3 : Int32) (ht_a0 : t a0 = (13, 0, 0)) : Met l yX12_hears (wl yX12_hears cX12_hears 4 (some .int)) ({ frames := 5, cells := 0, slots := 0, locals := 280 }) (tp D cy ld t [] [.ref a0, .int p1, .int p2, .int p3] (fun H => True)) (ti D cy ld t [] (fun r H => True) (tk_w t [(13, 0, 0), (20, 0, 0), (32, 0, 0)])) 0 0 (tk_w t [(13, 0, 0), (20, 0, 0), (32, 0, 0)]) := by sorry
theorem dX12_cows_0 : decode cX12_cows 0 = .ok (.iload_n 1, 1) := sorry
theorem dX12_cows_1 : decode cX12_cows 1 = .ok (.iconst 0, 1) := sorry
theorem dX12_cows_2 : decode cX12_cows 2 = .ok (.iconst 1, 1) := sorry
theorem dX12_cows_3 : decode cX12_cows 3 = .ok (.invokestatic 146, 3) := sorry
theorem dX12_cows_6 : decode cX12_cows 6 = .ok (.ifCond .eq 14, 3) := sorry
theorem dX12_cows_20 : decode cX12_cows 20 = .ok (.aload_n 0, 1) := sorry
theorem dX12_cows_21 : decode cX12_cows 21 = .ok (.iconst (-1), 1) := sorry
theorem dX12_cows_22 : decode cX12_cows 22 = .ok (.invokevirtual 159, 3) := sorry
theorem dX12_cows_25 : decode cX12_cows 25 = .ok (.ireturn, 1) := sorry
theorem dX12_cows_9 : decode cX12_cows 9 = .ok (.iload_n 2, 1) := sorry
theorem dX12_cows_10 : decode cX12_cows 10 = .ok (.iconst 0, 1) := sorry
theorem dX12_cows_11 : decode cX12_cows 11 = .ok (.sipush 9999, 3) := sorry
theorem dX12_cows_14 : decode cX12_cows 14 = .ok (.invokestatic 146, 3) := sorry
theorem dX12_cows_17 : decode cX12_cows 17 = .ok (.ifCond .ne 9, 3) := sorry
theorem dX12_cows_26 : decode cX12_cows 26 = .ok (.aload_n 0, 1) := sorry
theorem dX12_cows_27 : decode cX12_cows 27 = .ok (.getfield 10, 3) := sorry
theorem dX12_cows_30 : decode cX12_cows 30 = .ok (.getfield 118, 3) := sorry
theorem dX12_cows_33 : decode cX12_cows 33 = .ok (.getfield 168, 3) := sorry
theorem dX12_cows_36 : decode cX12_cows 36 = .ok (.iload_n 1, 1) := sorry
theorem dX12_cows_37 : decode cX12_cows 37 = .ok (.iaload, 1) := sorry
theorem dX12_cows_38 : decode cX12_cows 38 = .ok (.istore_n 3, 1) := sorry
theorem dX12_cows_39 : decode cX12_cows 39 = .ok (.aload_n 0, 1) := sorry
theorem dX12_cows_40 : decode cX12_cows 40 = .ok (.getfield 10, 3) := sorry
theorem dX12_cows_43 : decode cX12_cows 43 = .ok (.getfield 118, 3) := sorry
theorem dX12_cows_46 : decode cX12_cows 46 = .ok (.getfield 168, 3) := sorry
theorem dX12_cows_49 : decode cX12_cows 49 = .ok (.iload_n 1, 1) := sorry
theorem dX12_cows_50 : decode cX12_cows 50 = .ok (.iload_n 2, 1) := sorry
theorem dX12_cows_51 : decode cX12_cows 51 = .ok (.iastore, 1) := sorry
theorem dX12_cows_52 : decode cX12_cows 52 = .ok (.aload_n 0, 1) := sorry
theorem dX12_cows_53 : decode cX12_cows 53 = .ok (.getfield 38, 3) := sorry
theorem dX12_cows_56 : decode cX12_cows 56 = .ok (.invokevirtual 107, 3) := sorry
theorem dX12_cows_59 : decode cX12_cows 59 = .ok (.aload_n 0, 1) := sorry
theorem dX12_cows_60 : decode cX12_cows 60 = .ok (.iload_n 3, 1) := sorry
theorem dX12_cows_61 : decode cX12_cows 61 = .ok (.invokevirtual 165, 3) := sorry
theorem dX12_cows_64 : decode cX12_cows 64 = .ok (.ireturn, 1) := sorry
set_option maxHeartbeats 4000000 in
set_option maxRecDepth 100000 in
theorem k_X12_cows (l : Launch) (D : va_G) (cy : Nat → ClassId) (ld : Nat → Nat) (t : tk_T) (a0 : Nat) (p1 : Int32) (p2 : Int32) (ht_a0 : t a0 = (13, 0, 0)) : Met l yX12_cows (wl yX12_cows cX12_cows 4 (some .int)) ({ frames := 5, cells := 0, slots := 0, locals := 280 }) (tp D cy ld t [] [.ref a0, .int p1, .int p2] (fun H => True)) (ti D cy ld t [] (fun r H => True) (tk_w t [(13, 0, 0), (20, 0, 0), (2, 0, 0)])) 0 0 (tk_w t [(13, 0, 0), (20, 0, 0), (2, 0, 0)]) := by sorry
theorem dX12_terms_0 : decode cX12_terms 0 = .ok (.iload_n 1, 1) := sorry
theorem dX12_terms_1 : decode cX12_terms 1 = .ok (.iconst 1, 1) := sorry
theorem dX12_terms_10 : decode cX12_terms 10 = .ok (.istore_n 3, 1) := sorry
theorem dX12_terms_11 : decode cX12_terms 11 = .ok (.iload_n 1, 1) := sorry
theorem dX12_terms_12 : decode cX12_terms 12 = .ok (.iconst 3, 1) := sorry
theorem dX12_terms_24 : decode cX12_terms 24 = .ok (.istore 4, 2) := sorry
theorem dX12_terms_26 : decode cX12_terms 26 = .ok (.iload_n 1, 1) := sorry
theorem dX12_terms_27 : decode cX12_terms 27 = .ok (.iconst 0, 1) := sorry
theorem dX12_terms_28 : decode cX12_terms 28 = .ok (.iconst 3, 1) := sorry
theorem dX12_terms_29 : decode cX12_terms 29 = .ok (.invokestatic 146, 3) := sorry
theorem dX12_terms_32 : decode cX12_terms 32 = .ok (.ifCond .eq 13, 3) := sorry
theorem dX12_terms_45 : decode cX12_terms 45 = .ok (.aload_n 0, 1) := sorry
theorem dX12_terms_46 : decode cX12_terms 46 = .ok (.iconst (-1), 1) := sorry
theorem dX12_terms_47 : decode cX12_terms 47 = .ok (.invokevirtual 159, 3) := sorry
theorem dX12_terms_50 : decode cX12_terms 50 = .ok (.ireturn, 1) := sorry
theorem dX12_terms_35 : decode cX12_terms 35 = .ok (.iload_n 2, 1) := sorry
theorem dX12_terms_36 : decode cX12_terms 36 = .ok (.iload_n 3, 1) := sorry
theorem dX12_terms_37 : decode cX12_terms 37 = .ok (.iload 4, 2) := sorry
theorem dX12_terms_39 : decode cX12_terms 39 = .ok (.invokestatic 146, 3) := sorry
theorem dX12_terms_42 : decode cX12_terms 42 = .ok (.ifCond .ne 9, 3) := sorry
theorem dX12_terms_51 : decode cX12_terms 51 = .ok (.aload_n 0, 1) := sorry
theorem dX12_terms_52 : decode cX12_terms 52 = .ok (.getfield 10, 3) := sorry
theorem dX12_terms_55 : decode cX12_terms 55 = .ok (.iload_n 1, 1) := sorry
theorem dX12_terms_56 : decode cX12_terms 56 = .ok (.invokevirtual 171, 3) := sorry
theorem dX12_terms_59 : decode cX12_terms 59 = .ok (.istore 5, 2) := sorry
theorem dX12_terms_61 : decode cX12_terms 61 = .ok (.aload_n 0, 1) := sorry
theorem dX12_terms_62 : decode cX12_terms 62 = .ok (.getfield 10, 3) := sorry
theorem dX12_terms_65 : decode cX12_terms 65 = .ok (.iload_n 1, 1) := sorry
theorem dX12_terms_66 : decode cX12_terms 66 = .ok (.iload_n 2, 1) := sorry
theorem dX12_terms_67 : decode cX12_terms 67 = .ok (.invokevirtual 174, 3) := sorry
theorem dX12_terms_70 : decode cX12_terms 70 = .ok (.aload_n 0, 1) := sorry
theorem dX12_terms_71 : decode cX12_terms 71 = .ok (.getfield 38, 3) := sorry
theorem dX12_terms_74 : decode cX12_terms 74 = .ok (.invokevirtual 107, 3) := sorry
theorem dX12_terms_77 : decode cX12_terms 77 = .ok (.aload_n 0, 1) := sorry
theorem dX12_terms_78 : decode cX12_terms 78 = .ok (.iload 5, 2) := sorry
theorem dX12_terms_80 : decode cX12_terms 80 = .ok (.invokevirtual 165, 3) := sorry
theorem dX12_terms_83 : decode cX12_terms 83 = .ok (.ireturn, 1) := sorry
theorem dX12_terms_13 : decode cX12_terms 13 = .ok (.if_icmp .ne 8, 3) := sorry
theorem dX12_terms_21 : decode cX12_terms 21 = .ok (.sipush 999, 3) := sorry
theorem dX12_terms_16 : decode cX12_terms 16 = .ok (.bipush 9, 2) := sorry
theorem dX12_terms_18 : decode cX12_terms 18 = .ok (.goto 6, 3) := sorry
theorem dX12_terms_2 : decode cX12_terms 2 = .ok (.if_icmp .ne 7, 3) := sorry
theorem dX12_terms_9 : decode cX12_terms 9 = .ok (.iconst 0, 1) := sorry
theorem dX12_terms_5 : decode cX12_terms 5 = .ok (.iconst 1, 1) := sorry
theorem dX12_terms_6 : decode cX12_terms 6 = .ok (.goto 4, 3) := sorry
set_option maxHeartbeats 4000000 in
set_option maxRecDepth 100000 in
theorem k_X12_terms (l : Launch) (D : va_G) (cy : Nat → ClassId) (ld : Nat → Nat) (t : tk_T) (a0 : Nat) (p1 : Int32) (p2 : Int32) (ht_a0 : t a0 = (13, 0, 0)) : Met l yX12_terms (wl yX12_terms cX12_terms 6 (some .int)) ({ frames := 5, cells := 0, slots := 0, locals := 280 }) (tp D cy ld t [] [.ref a0, .int p1, .int p2] (fun H => True)) (ti D cy ld t [] (fun r H => True) (tk_w t [(13, 0, 0), (20, 0, 0), (10, 0, 0), (3, 0, 0), (2, 0, 0)])) 0 0 (tk_w t [(13, 0, 0), (20, 0, 0), (10, 0, 0), (3, 0, 0), (2, 0, 0)]) := by sorry
theorem dX12_pour_0 : decode cX12_pour 0 = .ok (.bipush 24, 2) := sorry
theorem dX12_pour_2 : decode cX12_pour 2 = .ok (.istore_n 2, 1) := sorry
theorem dX12_pour_3 : decode cX12_pour 3 = .ok (.iload_n 2, 1) := sorry
theorem dX12_pour_4 : decode cX12_pour 4 = .ok (.ifCond .lt 47, 3) := sorry
theorem dX12_pour_51 : decode cX12_pour 51 = .ok (.return_, 1) := sorry
theorem dX12_pour_7 : decode cX12_pour 7 = .ok (.aload_n 0, 1) := sorry
theorem dX12_pour_8 : decode cX12_pour 8 = .ok (.getfield 178, 3) := sorry
theorem dX12_pour_11 : decode cX12_pour 11 = .ok (.aload_n 0, 1) := sorry
theorem dX12_pour_12 : decode cX12_pour 12 = .ok (.getfield 55, 3) := sorry
theorem dX12_pour_15 : decode cX12_pour 15 = .ok (.arraylength, 1) := sorry
theorem dX12_pour_45 : decode cX12_pour 45 = .ok (.iinc 2 (-8), 3) := sorry
theorem dX12_pour_48 : decode cX12_pour 48 = .ok (.goto (-45), 3) := sorry
theorem dX12_pour_16 : decode cX12_pour 16 = .ok (.if_icmp .ge 29, 3) := sorry
theorem dX12_pour_19 : decode cX12_pour 19 = .ok (.aload_n 0, 1) := sorry
theorem dX12_pour_20 : decode cX12_pour 20 = .ok (.getfield 55, 3) := sorry
theorem dX12_pour_23 : decode cX12_pour 23 = .ok (.aload_n 0, 1) := sorry
theorem dX12_pour_24 : decode cX12_pour 24 = .ok (.getfield 178, 3) := sorry
theorem dX12_pour_27 : decode cX12_pour 27 = .ok (.iload_n 1, 1) := sorry
theorem dX12_pour_28 : decode cX12_pour 28 = .ok (.iload_n 2, 1) := sorry
theorem dX12_pour_29 : decode cX12_pour 29 = .ok (.iushr, 1) := sorry
theorem dX12_pour_30 : decode cX12_pour 30 = .ok (.sipush 255, 3) := sorry
theorem dX12_pour_33 : decode cX12_pour 33 = .ok (.iand, 1) := sorry
theorem dX12_pour_34 : decode cX12_pour 34 = .ok (.iastore, 1) := sorry
theorem dX12_pour_35 : decode cX12_pour 35 = .ok (.aload_n 0, 1) := sorry
theorem dX12_pour_36 : decode cX12_pour 36 = .ok (.dup, 1) := sorry
theorem dX12_pour_37 : decode cX12_pour 37 = .ok (.getfield 178, 3) := sorry
theorem dX12_pour_40 : decode cX12_pour 40 = .ok (.iconst 1, 1) := sorry
theorem dX12_pour_41 : decode cX12_pour 41 = .ok (.iadd, 1) := sorry
theorem dX12_pour_42 : decode cX12_pour 42 = .ok (.putfield 178, 3) := sorry
set_option maxHeartbeats 4000000 in
set_option maxRecDepth 100000 in
theorem k_X12_pour (l : Launch) (D : va_G) (cy : Nat → ClassId) (ld : Nat → Nat) (t : tk_T) (a0 : Nat) (p1 : Int32) (ht_a0 : t a0 = (13, 0, 0)) : Met l yX12_pour (wl yX12_pour cX12_pour 3 none) ({ frames := 3, cells := 0, slots := 0, locals := 140 }) (tp D cy ld t [] [.ref a0, .int p1] (fun H => True)) (tv D cy ld t [] (fun H => True) (tk_w t [(20, 9, 9), (13, 0, 0)])) 0 0 (tk_w t [(20, 9, 9), (13, 0, 0)]) := by sorry
theorem dX12_feed_0 : decode cX12_feed 0 = .ok (.aload_n 0, 1) := sorry
theorem dX12_feed_1 : decode cX12_feed 1 = .ok (.getfield 178, 3) := sorry
theorem dX12_feed_4 : decode cX12_feed 4 = .ok (.bipush 20, 2) := sorry
theorem dX12_feed_6 : decode cX12_feed 6 = .ok (.iadd, 1) := sorry
theorem dX12_feed_7 : decode cX12_feed 7 = .ok (.sipush 400, 3) := sorry
theorem dX12_feed_10 : decode cX12_feed 10 = .ok (.if_icmp .le 5, 3) := sorry
theorem dX12_feed_15 : decode cX12_feed 15 = .ok (.aload_n 0, 1) := sorry
theorem dX12_feed_16 : decode cX12_feed 16 = .ok (.iload_n 1, 1) := sorry
theorem dX12_feed_17 : decode cX12_feed 17 = .ok (.invokevirtual 181, 3) := sorry
theorem dX12_feed_20 : decode cX12_feed 20 = .ok (.aload_n 0, 1) := sorry
theorem dX12_feed_21 : decode cX12_feed 21 = .ok (.iload_n 2, 1) := sorry
theorem dX12_feed_22 : decode cX12_feed 22 = .ok (.invokevirtual 181, 3) := sorry
theorem dX12_feed_25 : decode cX12_feed 25 = .ok (.aload_n 0, 1) := sorry
theorem dX12_feed_26 : decode cX12_feed 26 = .ok (.iload_n 3, 1) := sorry
theorem dX12_feed_27 : decode cX12_feed 27 = .ok (.invokevirtual 181, 3) := sorry
theorem dX12_feed_30 : decode cX12_feed 30 = .ok (.aload_n 0, 1) := sorry
theorem dX12_feed_31 : decode cX12_feed 31 = .ok (.iload 4, 2) := sorry
theorem dX12_feed_33 : decode cX12_feed 33 = .ok (.invokevirtual 181, 3) := sorry
theorem dX12_feed_36 : decode cX12_feed 36 = .ok (.aload_n 0, 1) := sorry
theorem dX12_feed_37 : decode cX12_feed 37 = .ok (.iload 5, 2) := sorry
theorem dX12_feed_39 : decode cX12_feed 39 = .ok (.invokevirtual 181, 3) := sorry
theorem dX12_feed_42 : decode cX12_feed 42 = .ok (.aload_n 0, 1) := sorry
theorem dX12_feed_43 : decode cX12_feed 43 = .ok (.getfield 178, 3) := sorry
theorem dX12_feed_46 : decode cX12_feed 46 = .ok (.ireturn, 1) := sorry
theorem dX12_feed_13 : decode cX12_feed 13 = .ok (.iconst (-1), 1) := sorry
theorem dX12_feed_14 : decode cX12_feed 14 = .ok (.ireturn, 1) := sorry
set_option maxHeartbeats 4000000 in
set_option maxRecDepth 100000 in
theorem k_X12_feed (l : Launch) (D : va_G) (cy : Nat → ClassId) (ld : Nat → Nat) (t : tk_T) (a0 : Nat) (p1 : Int32) (p2 : Int32) (p3 : Int32) (p4 : Int32) (p5 : Int32) (ht_a0 : t a0 = (13, 0, 0)) : Met l yX12_feed (wl yX12_feed cX12_feed 6 (some .int)) ({ frames := 4, cells := 0, slots := 0, locals := 210 }) (tp D cy ld t [] [.ref a0, .int p1, .int p2, .int p3, .int p4, .int p5] (fun H => True)) (ti D cy ld t [] (fun r H => (-1) ≤ r.toInt ∧ r.toInt ≤ 400) (tk_w t [(20, 9, 9), (13, 0, 0)])) 0 0 (tk_w t [(20, 9, 9), (13, 0, 0)]) := by sorry
theorem dX12_end_0 : decode cX12_end 0 = .ok (.iload_n 1, 1) := sorry
theorem dX12_end_1 : decode cX12_end 1 = .ok (.iconst 0, 1) := sorry
theorem dX12_end_2 : decode cX12_end 2 = .ok (.aload_n 0, 1) := sorry
theorem dX12_end_3 : decode cX12_end 3 = .ok (.getfield 178, 3) := sorry
theorem dX12_end_6 : decode cX12_end 6 = .ok (.invokestatic 146, 3) := sorry
theorem dX12_end_9 : decode cX12_end 9 = .ok (.ifCond .ne 5, 3) := sorry
theorem dX12_end_14 : decode cX12_end 14 = .ok (.aload_n 0, 1) := sorry
theorem dX12_end_15 : decode cX12_end 15 = .ok (.iload_n 1, 1) := sorry
theorem dX12_end_16 : decode cX12_end 16 = .ok (.putfield 178, 3) := sorry
theorem dX12_end_19 : decode cX12_end 19 = .ok (.iload_n 1, 1) := sorry
theorem dX12_end_20 : decode cX12_end 20 = .ok (.ireturn, 1) := sorry
theorem dX12_end_12 : decode cX12_end 12 = .ok (.iconst (-1), 1) := sorry
theorem dX12_end_13 : decode cX12_end 13 = .ok (.ireturn, 1) := sorry
set_option maxHeartbeats 4000000 in
set_option maxRecDepth 100000 in
theorem k_X12_end (l : Launch) (D : va_G) (cy : Nat → ClassId) (ld : Nat → Nat) (t : tk_T) (a0 : Nat) (p1 : Int32) (ht_a0 : t a0 = (13, 0, 0)) : Met l yX12_end (wl yX12_end cX12_end 2 (some .int)) ({ frames := 4, cells := 0, slots := 0, locals := 210 }) (tp D cy ld t [] [.ref a0, .int p1] (fun H => True)) (ti D cy ld t [] (fun r H => (-1) ≤ r.toInt ∧ r.toInt ≤ 400) (tk_w t [(13, 0, 0)])) 0 0 (tk_w t [(13, 0, 0)]) := by sorry
theorem dX12_row_0 : decode cX12_row 0 = .ok (.aload_n 0, 1) := sorry
theorem dX12_row_1 : decode cX12_row 1 = .ok (.getfield 178, 3) := sorry
theorem dX12_row_4 : decode cX12_row 4 = .ok (.ifCond .ne 10, 3) := sorry
theorem dX12_row_14 : decode cX12_row 14 = .ok (.iconst 0, 1) := sorry
theorem dX12_row_15 : decode cX12_row 15 = .ok (.istore_n 1, 1) := sorry
theorem dX12_row_16 : decode cX12_row 16 = .ok (.iconst 0, 1) := sorry
theorem dX12_row_17 : decode cX12_row 17 = .ok (.istore_n 2, 1) := sorry
theorem dX12_row_18 : decode cX12_row 18 = .ok (.iconst 0, 1) := sorry
theorem dX12_row_19 : decode cX12_row 19 = .ok (.istore_n 3, 1) := sorry
theorem dX12_row_20 : decode cX12_row 20 = .ok (.iload_n 3, 1) := sorry
theorem dX12_row_21 : decode cX12_row 21 = .ok (.aload_n 0, 1) := sorry
theorem dX12_row_22 : decode cX12_row 22 = .ok (.getfield 178, 3) := sorry
theorem dX12_row_25 : decode cX12_row 25 = .ok (.if_icmp .ge 52, 3) := sorry
theorem dX12_row_77 : decode cX12_row 77 = .ok (.aload_n 0, 1) := sorry
theorem dX12_row_78 : decode cX12_row 78 = .ok (.iconst 0, 1) := sorry
theorem dX12_row_79 : decode cX12_row 79 = .ok (.putfield 178, 3) := sorry
theorem dX12_row_82 : decode cX12_row 82 = .ok (.aload_n 0, 1) := sorry
theorem dX12_row_83 : decode cX12_row 83 = .ok (.iload_n 2, 1) := sorry
theorem dX12_row_84 : decode cX12_row 84 = .ok (.putfield 185, 3) := sorry
theorem dX12_row_87 : decode cX12_row 87 = .ok (.aload_n 0, 1) := sorry
theorem dX12_row_88 : decode cX12_row 88 = .ok (.iload_n 1, 1) := sorry
theorem dX12_row_89 : decode cX12_row 89 = .ok (.invokevirtual 165, 3) := sorry
theorem dX12_row_92 : decode cX12_row 92 = .ok (.ireturn, 1) := sorry
theorem dX12_row_28 : decode cX12_row 28 = .ok (.iload_n 3, 1) := sorry
theorem dX12_row_29 : decode cX12_row 29 = .ok (.iconst 1, 1) := sorry
theorem dX12_row_30 : decode cX12_row 30 = .ok (.iadd, 1) := sorry
theorem dX12_row_31 : decode cX12_row 31 = .ok (.aload_n 0, 1) := sorry
theorem dX12_row_32 : decode cX12_row 32 = .ok (.getfield 178, 3) := sorry
theorem dX12_row_71 : decode cX12_row 71 = .ok (.iinc 3 2, 3) := sorry
theorem dX12_row_74 : decode cX12_row 74 = .ok (.goto (-54), 3) := sorry
theorem dX12_row_35 : decode cX12_row 35 = .ok (.if_icmp .ge 33, 3) := sorry
theorem dX12_row_68 : decode cX12_row 68 = .ok (.iinc 2 1, 3) := sorry
theorem dX12_row_38 : decode cX12_row 38 = .ok (.aload_n 0, 1) := sorry
theorem dX12_row_39 : decode cX12_row 39 = .ok (.getfield 10, 3) := sorry
theorem dX12_row_42 : decode cX12_row 42 = .ok (.aload_n 0, 1) := sorry
theorem dX12_row_43 : decode cX12_row 43 = .ok (.getfield 55, 3) := sorry
theorem dX12_row_46 : decode cX12_row 46 = .ok (.iload_n 3, 1) := sorry
theorem dX12_row_47 : decode cX12_row 47 = .ok (.iaload, 1) := sorry
theorem dX12_row_48 : decode cX12_row 48 = .ok (.aload_n 0, 1) := sorry
theorem dX12_row_49 : decode cX12_row 49 = .ok (.getfield 55, 3) := sorry
theorem dX12_row_52 : decode cX12_row 52 = .ok (.iload_n 3, 1) := sorry
theorem dX12_row_53 : decode cX12_row 53 = .ok (.iconst 1, 1) := sorry
theorem dX12_row_54 : decode cX12_row 54 = .ok (.iadd, 1) := sorry
theorem dX12_row_55 : decode cX12_row 55 = .ok (.iaload, 1) := sorry
theorem dX12_row_56 : decode cX12_row 56 = .ok (.invokevirtual 139, 3) := sorry
theorem dX12_row_59 : decode cX12_row 59 = .ok (.ifCond .lt 9, 3) := sorry
theorem dX12_row_62 : decode cX12_row 62 = .ok (.iinc 1 1, 3) := sorry
theorem dX12_row_65 : decode cX12_row 65 = .ok (.goto 6, 3) := sorry
theorem dX12_row_7 : decode cX12_row 7 = .ok (.aload_n 0, 1) := sorry
theorem dX12_row_8 : decode cX12_row 8 = .ok (.bipush (-6), 2) := sorry
theorem dX12_row_10 : decode cX12_row 10 = .ok (.invokevirtual 159, 3) := sorry
theorem dX12_row_13 : decode cX12_row 13 = .ok (.ireturn, 1) := sorry
set_option maxHeartbeats 4000000 in
set_option maxRecDepth 100000 in
theorem k_X12_row (l : Launch) (D : va_G) (cy : Nat → ClassId) (ld : Nat → Nat) (t : tk_T) (a0 : Nat) (ht_a0 : t a0 = (13, 0, 0)) : Met l yX12_row (wl yX12_row cX12_row 4 (some .int)) ({ frames := 5, cells := 0, slots := 0, locals := 280 }) (tp D cy ld t [] [.ref a0] (fun H => True)) (ti D cy ld t [] (fun r H => True) (tk_w t [(33, 0, 0), (34, 0, 0), (3, 0, 0), (13, 0, 0), (20, 0, 0)])) 0 0 (tk_w t [(33, 0, 0), (34, 0, 0), (3, 0, 0), (13, 0, 0), (20, 0, 0)]) := by sorry
theorem dX12_coughs_0 : decode cX12_coughs 0 = .ok (.aload_n 0, 1) := sorry
theorem dX12_coughs_1 : decode cX12_coughs 1 = .ok (.getfield 185, 3) := sorry
theorem dX12_coughs_4 : decode cX12_coughs 4 = .ok (.ireturn, 1) := sorry
set_option maxHeartbeats 4000000 in
set_option maxRecDepth 100000 in
theorem k_X12_coughs (l : Launch) (D : va_G) (cy : Nat → ClassId) (ld : Nat → Nat) (t : tk_T) (a0 : Nat) (ht_a0 : t a0 = (13, 0, 0)) : Met l yX12_coughs (wl yX12_coughs cX12_coughs 1 (some .int)) ({ frames := 3, cells := 0, slots := 0, locals := 140 }) (tp D cy ld t [] [.ref a0] (fun H => True)) (ti D cy ld t [] (fun r H => True) (tk_w t [])) 0 0 (tk_w t []) := by sorry
theorem dX12_orders_0 : decode cX12_orders 0 = .ok (.aload_n 0, 1) := sorry
theorem dX12_orders_1 : decode cX12_orders 1 = .ok (.getfield 178, 3) := sorry
theorem dX12_orders_4 : decode cX12_orders 4 = .ok (.istore_n 1, 1) := sorry
theorem dX12_orders_5 : decode cX12_orders 5 = .ok (.aload_n 0, 1) := sorry
theorem dX12_orders_6 : decode cX12_orders 6 = .ok (.iconst 0, 1) := sorry
theorem dX12_orders_7 : decode cX12_orders 7 = .ok (.putfield 178, 3) := sorry
theorem dX12_orders_10 : decode cX12_orders 10 = .ok (.aload_n 0, 1) := sorry
theorem dX12_orders_11 : decode cX12_orders 11 = .ok (.getfield 51, 3) := sorry
theorem dX12_orders_14 : decode cX12_orders 14 = .ok (.iconst (-1), 1) := sorry
theorem dX12_orders_15 : decode cX12_orders 15 = .ok (.putfield 209, 3) := sorry
theorem dX12_orders_18 : decode cX12_orders 18 = .ok (.aload_n 0, 1) := sorry
theorem dX12_orders_19 : decode cX12_orders 19 = .ok (.aload_n 0, 1) := sorry
theorem dX12_orders_20 : decode cX12_orders 20 = .ok (.getfield 64, 3) := sorry
theorem dX12_orders_23 : decode cX12_orders 23 = .ok (.iload_n 1, 1) := sorry
theorem dX12_orders_24 : decode cX12_orders 24 = .ok (.iconst 0, 1) := sorry
theorem dX12_orders_25 : decode cX12_orders 25 = .ok (.invokevirtual 191, 3) := sorry
theorem dX12_orders_28 : decode cX12_orders 28 = .ok (.putfield 99, 3) := sorry
theorem dX12_orders_31 : decode cX12_orders 31 = .ok (.aload_n 0, 1) := sorry
theorem dX12_orders_32 : decode cX12_orders 32 = .ok (.getfield 99, 3) := sorry
theorem dX12_orders_35 : decode cX12_orders 35 = .ok (.iconst (-1), 1) := sorry
theorem dX12_orders_36 : decode cX12_orders 36 = .ok (.if_icmp .eq 10, 3) := sorry
theorem dX12_orders_46 : decode cX12_orders 46 = .ok (.aload_n 0, 1) := sorry
theorem dX12_orders_47 : decode cX12_orders 47 = .ok (.aload_n 0, 1) := sorry
theorem dX12_orders_48 : decode cX12_orders 48 = .ok (.getfield 51, 3) := sorry
theorem dX12_orders_51 : decode cX12_orders 51 = .ok (.aload_n 0, 1) := sorry
theorem dX12_orders_52 : decode cX12_orders 52 = .ok (.getfield 64, 3) := sorry
theorem dX12_orders_55 : decode cX12_orders 55 = .ok (.getfield 195, 3) := sorry
theorem dX12_orders_58 : decode cX12_orders 58 = .ok (.invokevirtual 212, 3) := sorry
theorem dX12_orders_61 : decode cX12_orders 61 = .ok (.invokevirtual 110, 3) := sorry
theorem dX12_orders_64 : decode cX12_orders 64 = .ok (.ireturn, 1) := sorry
theorem dX12_orders_39 : decode cX12_orders 39 = .ok (.aload_n 0, 1) := sorry
theorem dX12_orders_40 : decode cX12_orders 40 = .ok (.bipush (-6), 2) := sorry
theorem dX12_orders_42 : decode cX12_orders 42 = .ok (.invokevirtual 159, 3) := sorry
theorem dX12_orders_45 : decode cX12_orders 45 = .ok (.ireturn, 1) := sorry
set_option maxHeartbeats 4000000 in
set_option maxRecDepth 100000 in
theorem k_X12_orders (l : Launch) (D : va_G) (cy : Nat → ClassId) (ld : Nat → Nat) (t : tk_T) (a0 : Nat) (ht_a0 : t a0 = (13, 0, 0)) : Met l yX12_orders (wl yX12_orders cX12_orders 2 (some .int)) ({ frames := 41, cells := 0, slots := 0, locals := 2800 }) (tp D cy ld t [] [.ref a0] (fun H => True)) (ti D cy ld t [] (fun r H => True) (tk_w t [(13, 0, 0), (5, 0, 0), (8, 12, 12), (7, 0, 0), (20, 0, 0), (23, 0, 0), (20, 2, 2), (10, 2, 2), (2, 0, 0), (20, 3, 3), (10, 3, 3), (20, 1, 1), (10, 1, 1), (10, 0, 0), (12, 0, 0), (9, 0, 0)])) 0 0 (tk_w t [(13, 0, 0), (5, 0, 0), (8, 12, 12), (7, 0, 0), (20, 0, 0), (23, 0, 0), (20, 2, 2), (10, 2, 2), (2, 0, 0), (20, 3, 3), (10, 3, 3), (20, 1, 1), (10, 1, 1), (10, 0, 0), (12, 0, 0), (9, 0, 0)]) := by sorry
theorem dX12_fault_0 : decode cX12_fault 0 = .ok (.aload_n 0, 1) := sorry
theorem dX12_fault_1 : decode cX12_fault 1 = .ok (.getfield 99, 3) := sorry
theorem dX12_fault_4 : decode cX12_fault 4 = .ok (.ireturn, 1) := sorry
set_option maxHeartbeats 4000000 in
set_option maxRecDepth 100000 in
theorem k_X12_fault (l : Launch) (D : va_G) (cy : Nat → ClassId) (ld : Nat → Nat) (t : tk_T) (a0 : Nat) (ht_a0 : t a0 = (13, 0, 0)) : Met l yX12_fault (wl yX12_fault cX12_fault 1 (some .int)) ({ frames := 3, cells := 0, slots := 0, locals := 140 }) (tp D cy ld t [] [.ref a0] (fun H => True)) (ti D cy ld t [] (fun r H => True) (tk_w t [])) 0 0 (tk_w t []) := by sorry
theorem dX12_stopped_0 : decode cX12_stopped 0 = .ok (.aload_n 0, 1) := sorry
theorem dX12_stopped_1 : decode cX12_stopped 1 = .ok (.getfield 51, 3) := sorry
theorem dX12_stopped_4 : decode cX12_stopped 4 = .ok (.getfield 209, 3) := sorry
theorem dX12_stopped_7 : decode cX12_stopped 7 = .ok (.ireturn, 1) := sorry
set_option maxHeartbeats 4000000 in
set_option maxRecDepth 100000 in
theorem k_X12_stopped (l : Launch) (D : va_G) (cy : Nat → ClassId) (ld : Nat → Nat) (t : tk_T) (a0 : Nat) (ht_a0 : t a0 = (13, 0, 0)) : Met l yX12_stopped (wl yX12_stopped cX12_stopped 1 (some .int)) ({ frames := 3, cells := 0, slots := 0, locals := 140 }) (tp D cy ld t [] [.ref a0] (fun H => True)) (ti D cy ld t [] (fun r H => True) (tk_w t [])) 0 0 (tk_w t []) := by sorry
theorem dX12_force_0 : decode cX12_force 0 = .ok (.iload_n 1, 1) := sorry
theorem dX12_force_1 : decode cX12_force 1 = .ok (.iconst (-1), 1) := sorry
theorem dX12_force_2 : decode cX12_force 2 = .ok (.if_icmp .eq 27, 3) := sorry
theorem dX12_force_29 : decode cX12_force 29 = .ok (.aload_n 0, 1) := sorry
theorem dX12_force_30 : decode cX12_force 30 = .ok (.getfield 10, 3) := sorry
theorem dX12_force_33 : decode cX12_force 33 = .ok (.getfield 215, 3) := sorry
theorem dX12_force_36 : decode cX12_force 36 = .ok (.istore_n 2, 1) := sorry
theorem dX12_force_37 : decode cX12_force 37 = .ok (.aload_n 0, 1) := sorry
theorem dX12_force_38 : decode cX12_force 38 = .ok (.getfield 10, 3) := sorry
theorem dX12_force_41 : decode cX12_force 41 = .ok (.iload_n 1, 1) := sorry
theorem dX12_force_42 : decode cX12_force 42 = .ok (.putfield 215, 3) := sorry
theorem dX12_force_45 : decode cX12_force 45 = .ok (.aload_n 0, 1) := sorry
theorem dX12_force_46 : decode cX12_force 46 = .ok (.iload_n 2, 1) := sorry
theorem dX12_force_47 : decode cX12_force 47 = .ok (.invokevirtual 165, 3) := sorry
theorem dX12_force_50 : decode cX12_force 50 = .ok (.ireturn, 1) := sorry
theorem dX12_force_5 : decode cX12_force 5 = .ok (.iload_n 1, 1) := sorry
theorem dX12_force_6 : decode cX12_force 6 = .ok (.iconst 0, 1) := sorry
theorem dX12_force_7 : decode cX12_force 7 = .ok (.aload_n 0, 1) := sorry
theorem dX12_force_8 : decode cX12_force 8 = .ok (.getfield 10, 3) := sorry
theorem dX12_force_11 : decode cX12_force 11 = .ok (.getfield 188, 3) := sorry
theorem dX12_force_14 : decode cX12_force 14 = .ok (.iconst 1, 1) := sorry
theorem dX12_force_15 : decode cX12_force 15 = .ok (.isub, 1) := sorry
theorem dX12_force_16 : decode cX12_force 16 = .ok (.invokestatic 146, 3) := sorry
theorem dX12_force_19 : decode cX12_force 19 = .ok (.ifCond .ne 10, 3) := sorry
theorem dX12_force_22 : decode cX12_force 22 = .ok (.aload_n 0, 1) := sorry
theorem dX12_force_23 : decode cX12_force 23 = .ok (.bipush (-2), 2) := sorry
theorem dX12_force_25 : decode cX12_force 25 = .ok (.invokevirtual 159, 3) := sorry
theorem dX12_force_28 : decode cX12_force 28 = .ok (.ireturn, 1) := sorry
set_option maxHeartbeats 4000000 in
set_option maxRecDepth 100000 in
theorem k_X12_force (l : Launch) (D : va_G) (cy : Nat → ClassId) (ld : Nat → Nat) (t : tk_T) (a0 : Nat) (p1 : Int32) (ht_a0 : t a0 = (13, 0, 0)) : Met l yX12_force (wl yX12_force cX12_force 3 (some .int)) ({ frames := 5, cells := 0, slots := 0, locals := 280 }) (tp D cy ld t [] [.ref a0, .int p1] (fun H => True)) (ti D cy ld t [] (fun r H => True) (tk_w t [(3, 0, 0), (13, 0, 0), (20, 0, 0)])) 0 0 (tk_w t [(3, 0, 0), (13, 0, 0), (20, 0, 0)]) := by sorry
theorem dX12_asks_0 : decode cX12_asks 0 = .ok (.aload_n 0, 1) := sorry
theorem dX12_asks_1 : decode cX12_asks 1 = .ok (.getfield 10, 3) := sorry
theorem dX12_asks_4 : decode cX12_asks 4 = .ok (.getfield 118, 3) := sorry
theorem dX12_asks_7 : decode cX12_asks 7 = .ok (.invokevirtual 218, 3) := sorry
theorem dX12_asks_10 : decode cX12_asks 10 = .ok (.ifCond .eq 14, 3) := sorry
theorem dX12_asks_24 : decode cX12_asks 24 = .ok (.iconst (-1), 1) := sorry
theorem dX12_asks_25 : decode cX12_asks 25 = .ok (.ireturn, 1) := sorry
theorem dX12_asks_13 : decode cX12_asks 13 = .ok (.aload_n 0, 1) := sorry
theorem dX12_asks_14 : decode cX12_asks 14 = .ok (.getfield 10, 3) := sorry
theorem dX12_asks_17 : decode cX12_asks 17 = .ok (.iload_n 1, 1) := sorry
theorem dX12_asks_18 : decode cX12_asks 18 = .ok (.invokevirtual 143, 3) := sorry
theorem dX12_asks_21 : decode cX12_asks 21 = .ok (.ifCond .ne 5, 3) := sorry
theorem dX12_asks_26 : decode cX12_asks 26 = .ok (.iload_n 2, 1) := sorry
theorem dX12_asks_27 : decode cX12_asks 27 = .ok (.tableswitch 81 0 2 #[25, 41, 57], 25) := sorry
theorem dX12_asks_52 : decode cX12_asks 52 = .ok (.aload_n 0, 1) := sorry
theorem dX12_asks_53 : decode cX12_asks 53 = .ok (.getfield 29, 3) := sorry
theorem dX12_asks_56 : decode cX12_asks 56 = .ok (.aload_n 0, 1) := sorry
theorem dX12_asks_57 : decode cX12_asks 57 = .ok (.getfield 10, 3) := sorry
theorem dX12_asks_60 : decode cX12_asks 60 = .ok (.getfield 118, 3) := sorry
theorem dX12_asks_63 : decode cX12_asks 63 = .ok (.iload_n 1, 1) := sorry
theorem dX12_asks_64 : decode cX12_asks 64 = .ok (.invokevirtual 222, 3) := sorry
theorem dX12_asks_67 : decode cX12_asks 67 = .ok (.ireturn, 1) := sorry
theorem dX12_asks_68 : decode cX12_asks 68 = .ok (.aload_n 0, 1) := sorry
theorem dX12_asks_69 : decode cX12_asks 69 = .ok (.getfield 29, 3) := sorry
theorem dX12_asks_72 : decode cX12_asks 72 = .ok (.aload_n 0, 1) := sorry
theorem dX12_asks_73 : decode cX12_asks 73 = .ok (.getfield 10, 3) := sorry
theorem dX12_asks_76 : decode cX12_asks 76 = .ok (.getfield 118, 3) := sorry
theorem dX12_asks_79 : decode cX12_asks 79 = .ok (.iload_n 1, 1) := sorry
theorem dX12_asks_80 : decode cX12_asks 80 = .ok (.invokevirtual 226, 3) := sorry
theorem dX12_asks_83 : decode cX12_asks 83 = .ok (.ireturn, 1) := sorry
theorem dX12_asks_84 : decode cX12_asks 84 = .ok (.aload_n 0, 1) := sorry
theorem dX12_asks_85 : decode cX12_asks 85 = .ok (.getfield 29, 3) := sorry
theorem dX12_asks_88 : decode cX12_asks 88 = .ok (.aload_n 0, 1) := sorry
theorem dX12_asks_89 : decode cX12_asks 89 = .ok (.getfield 10, 3) := sorry
theorem dX12_asks_92 : decode cX12_asks 92 = .ok (.getfield 118, 3) := sorry
theorem dX12_asks_95 : decode cX12_asks 95 = .ok (.iload_n 1, 1) := sorry
theorem dX12_asks_96 : decode cX12_asks 96 = .ok (.invokevirtual 229, 3) := sorry
theorem dX12_asks_99 : decode cX12_asks 99 = .ok (.ifCond .eq 7, 3) := sorry
theorem dX12_asks_106 : decode cX12_asks 106 = .ok (.iconst 0, 1) := sorry
theorem dX12_asks_107 : decode cX12_asks 107 = .ok (.ireturn, 1) := sorry
theorem dX12_asks_102 : decode cX12_asks 102 = .ok (.iconst 1, 1) := sorry
theorem dX12_asks_103 : decode cX12_asks 103 = .ok (.goto 4, 3) := sorry
theorem dX12_asks_108 : decode cX12_asks 108 = .ok (.iconst (-1), 1) := sorry
theorem dX12_asks_109 : decode cX12_asks 109 = .ok (.ireturn, 1) := sorry
set_option maxHeartbeats 4000000 in
set_option maxRecDepth 100000 in
theorem k_X12_asks (l : Launch) (D : va_G) (cy : Nat → ClassId) (ld : Nat → Nat) (t : tk_T) (a0 : Nat) (p1 : Int32) (p2 : Int32) (ht_a0 : t a0 = (13, 0, 0)) : Met l yX12_asks (wl yX12_asks cX12_asks 3 (some .int)) ({ frames := 7, cells := 0, slots := 0, locals := 420 }) (tp D cy ld t [] [.ref a0, .int p1, .int p2] (fun H => True)) (ti D cy ld t [] (fun r H => True) (tk_w t [(20, 0, 0), (12, 0, 0), (9, 0, 0)])) 0 0 (tk_w t [(20, 0, 0), (12, 0, 0), (9, 0, 0)]) := by sorry
theorem dX12_wakes_0 : decode cX12_wakes 0 = .ok (.aload_n 0, 1) := sorry
theorem dX12_wakes_1 : decode cX12_wakes 1 = .ok (.getfield 10, 3) := sorry
theorem dX12_wakes_4 : decode cX12_wakes 4 = .ok (.iload_n 1, 1) := sorry
theorem dX12_wakes_5 : decode cX12_wakes 5 = .ok (.invokevirtual 114, 3) := sorry
theorem dX12_wakes_8 : decode cX12_wakes 8 = .ok (.ifCond .eq 21, 3) := sorry
theorem dX12_wakes_29 : decode cX12_wakes 29 = .ok (.iconst (-1), 1) := sorry
theorem dX12_wakes_30 : decode cX12_wakes 30 = .ok (.ireturn, 1) := sorry
theorem dX12_wakes_11 : decode cX12_wakes 11 = .ok (.aload_n 0, 1) := sorry
theorem dX12_wakes_12 : decode cX12_wakes 12 = .ok (.getfield 29, 3) := sorry
theorem dX12_wakes_15 : decode cX12_wakes 15 = .ok (.aload_n 0, 1) := sorry
theorem dX12_wakes_16 : decode cX12_wakes 16 = .ok (.getfield 10, 3) := sorry
theorem dX12_wakes_19 : decode cX12_wakes 19 = .ok (.getfield 118, 3) := sorry
theorem dX12_wakes_22 : decode cX12_wakes 22 = .ok (.iload_n 1, 1) := sorry
theorem dX12_wakes_23 : decode cX12_wakes 23 = .ok (.invokevirtual 233, 3) := sorry
theorem dX12_wakes_26 : decode cX12_wakes 26 = .ok (.goto 4, 3) := sorry
set_option maxHeartbeats 4000000 in
set_option maxRecDepth 100000 in
theorem k_X12_wakes (l : Launch) (D : va_G) (cy : Nat → ClassId) (ld : Nat → Nat) (t : tk_T) (a0 : Nat) (p1 : Int32) (ht_a0 : t a0 = (13, 0, 0)) : Met l yX12_wakes (wl yX12_wakes cX12_wakes 2 (some .int)) ({ frames := 6, cells := 0, slots := 0, locals := 350 }) (tp D cy ld t [] [.ref a0, .int p1] (fun H => True)) (ti D cy ld t [] (fun r H => (-1) ≤ r.toInt) (tk_w t [(20, 0, 0), (12, 0, 0), (9, 0, 0)])) 0 0 (tk_w t [(20, 0, 0), (12, 0, 0), (9, 0, 0)]) := by sorry
theorem dX12_begin_0 : decode cX12_begin 0 = .ok (.aload_n 0, 1) := sorry
theorem dX12_begin_1 : decode cX12_begin 1 = .ok (.aload_n 0, 1) := sorry
theorem dX12_begin_2 : decode cX12_begin 2 = .ok (.getfield 38, 3) := sorry
theorem dX12_begin_5 : decode cX12_begin 5 = .ok (.iload_n 1, 1) := sorry
theorem dX12_begin_6 : decode cX12_begin 6 = .ok (.iload_n 2, 1) := sorry
theorem dX12_begin_7 : decode cX12_begin 7 = .ok (.iload_n 3, 1) := sorry
theorem dX12_begin_8 : decode cX12_begin 8 = .ok (.invokevirtual 236, 3) := sorry
theorem dX12_begin_11 : decode cX12_begin 11 = .ok (.invokevirtual 110, 3) := sorry
theorem dX12_begin_14 : decode cX12_begin 14 = .ok (.ireturn, 1) := sorry
set_option maxHeartbeats 4000000 in
set_option maxRecDepth 100000 in
theorem k_X12_begin (l : Launch) (D : va_G) (cy : Nat → ClassId) (ld : Nat → Nat) (t : tk_T) (a0 : Nat) (p1 : Int32) (p2 : Int32) (p3 : Int32) (ht_a0 : t a0 = (13, 0, 0)) : Met l yX12_begin (wl yX12_begin cX12_begin 4 (some .int)) ({ frames := 7, cells := 0, slots := 0, locals := 420 }) (tp D cy ld t [] [.ref a0, .int p1, .int p2, .int p3] (fun H => True)) (ti D cy ld t [] (fun r H => True) (tk_w t [(2, 0, 0), (20, 1, 1), (10, 1, 1), (20, 0, 0), (10, 0, 0), (13, 0, 0)])) 0 0 (tk_w t [(2, 0, 0), (20, 1, 1), (10, 1, 1), (20, 0, 0), (10, 0, 0), (13, 0, 0)]) := by sorry
end

section
theorem dX12_duel_0 : decode cX12_duel 0 = .ok (.aload_n 0, 1) := sorry
theorem dX12_duel_1 : decode cX12_duel 1 = .ok (.getfield 10, 3) := sorry
theorem dX12_duel_4 : decode cX12_duel 4 = .ok (.getfield 118, 3) := sorry
theorem dX12_duel_7 : decode cX12_duel 7 = .ok (.astore_n 2, 1) := sorry
theorem dX12_duel_8 : decode cX12_duel 8 = .ok (.aload_n 2, 1) := sorry
theorem dX12_duel_9 : decode cX12_duel 9 = .ok (.invokevirtual 218, 3) := sorry
theorem dX12_duel_12 : decode cX12_duel 12 = .ok (.ifCond .ne 5, 3) := sorry
theorem dX12_duel_17 : decode cX12_duel 17 = .ok (.iload_n 1, 1) := sorry
theorem dX12_duel_18 : decode cX12_duel 18 = .ok (.tableswitch 68 0 5 #[38, 43, 48, 53, 58, 63], 38) := sorry
theorem dX12_duel_56 : decode cX12_duel 56 = .ok (.aload_n 2, 1) := sorry
theorem dX12_duel_57 : decode cX12_duel 57 = .ok (.getfield 239, 3) := sorry
theorem dX12_duel_60 : decode cX12_duel 60 = .ok (.ireturn, 1) := sorry
theorem dX12_duel_61 : decode cX12_duel 61 = .ok (.aload_n 2, 1) := sorry
theorem dX12_duel_62 : decode cX12_duel 62 = .ok (.getfield 242, 3) := sorry
theorem dX12_duel_65 : decode cX12_duel 65 = .ok (.ireturn, 1) := sorry
theorem dX12_duel_66 : decode cX12_duel 66 = .ok (.aload_n 2, 1) := sorry
theorem dX12_duel_67 : decode cX12_duel 67 = .ok (.getfield 245, 3) := sorry
theorem dX12_duel_70 : decode cX12_duel 70 = .ok (.ireturn, 1) := sorry
theorem dX12_duel_71 : decode cX12_duel 71 = .ok (.aload_n 2, 1) := sorry
theorem dX12_duel_72 : decode cX12_duel 72 = .ok (.getfield 248, 3) := sorry
theorem dX12_duel_75 : decode cX12_duel 75 = .ok (.ireturn, 1) := sorry
theorem dX12_duel_76 : decode cX12_duel 76 = .ok (.aload_n 2, 1) := sorry
theorem dX12_duel_77 : decode cX12_duel 77 = .ok (.invokevirtual 251, 3) := sorry
theorem dX12_duel_80 : decode cX12_duel 80 = .ok (.ireturn, 1) := sorry
theorem dX12_duel_81 : decode cX12_duel 81 = .ok (.aload_n 2, 1) := sorry
theorem dX12_duel_82 : decode cX12_duel 82 = .ok (.getfield 255, 3) := sorry
theorem dX12_duel_85 : decode cX12_duel 85 = .ok (.ireturn, 1) := sorry
theorem dX12_duel_86 : decode cX12_duel 86 = .ok (.iconst (-1), 1) := sorry
theorem dX12_duel_87 : decode cX12_duel 87 = .ok (.ireturn, 1) := sorry
theorem dX12_duel_15 : decode cX12_duel 15 = .ok (.iconst (-1), 1) := sorry
theorem dX12_duel_16 : decode cX12_duel 16 = .ok (.ireturn, 1) := sorry
set_option maxHeartbeats 4000000 in
set_option maxRecDepth 100000 in
theorem k_X12_duel (l : Launch) (D : va_G) (cy : Nat → ClassId) (ld : Nat → Nat) (t : tk_T) (a0 : Nat) (p1 : Int32) (ht_a0 : t a0 = (13, 0, 0)) : Met l yX12_duel (wl yX12_duel cX12_duel 3 (some .int)) ({ frames := 4, cells := 0, slots := 0, locals := 210 }) (tp D cy ld t [] [.ref a0, .int p1] (fun H => True)) (ti D cy ld t [] (fun r H => True) (tk_w t [])) 0 0 (tk_w t []) := by sorry
theorem dX12_sing_0 : decode cX12_sing 0 = .ok (.aload_n 0, 1) := sorry
theorem dX12_sing_1 : decode cX12_sing 1 = .ok (.aload_n 0, 1) := sorry
theorem dX12_sing_2 : decode cX12_sing 2 = .ok (.getfield 38, 3) := sorry
theorem dX12_sing_5 : decode cX12_sing 5 = .ok (.iload_n 1, 1) := sorry
theorem dX12_sing_6 : decode cX12_sing 6 = .ok (.invokevirtual 258, 3) := sorry
theorem dX12_sing_9 : decode cX12_sing 9 = .ok (.invokevirtual 110, 3) := sorry
theorem dX12_sing_12 : decode cX12_sing 12 = .ok (.ireturn, 1) := sorry
set_option maxHeartbeats 4000000 in
set_option maxRecDepth 100000 in
theorem k_X12_sing (l : Launch) (D : va_G) (cy : Nat → ClassId) (ld : Nat → Nat) (t : tk_T) (a0 : Nat) (p1 : Int32) (ht_a0 : t a0 = (13, 0, 0)) : Met l yX12_sing (wl yX12_sing cX12_sing 2 (some .int)) ({ frames := 8, cells := 0, slots := 0, locals := 490 }) (tp D cy ld t [] [.ref a0, .int p1] (fun H => True)) (ti D cy ld t [] (fun r H => True) (tk_w t [(20, 0, 0), (12, 0, 0), (9, 0, 0), (2, 0, 0), (20, 1, 1), (10, 1, 1), (10, 0, 0), (13, 0, 0)])) 0 0 (tk_w t [(20, 0, 0), (12, 0, 0), (9, 0, 0), (2, 0, 0), (20, 1, 1), (10, 1, 1), (10, 0, 0), (13, 0, 0)]) := by sorry
theorem dX12_part_0 : decode cX12_part 0 = .ok (.aload_n 0, 1) := sorry
theorem dX12_part_1 : decode cX12_part 1 = .ok (.aload_n 0, 1) := sorry
theorem dX12_part_2 : decode cX12_part 2 = .ok (.getfield 38, 3) := sorry
theorem dX12_part_5 : decode cX12_part 5 = .ok (.invokevirtual 261, 3) := sorry
theorem dX12_part_8 : decode cX12_part 8 = .ok (.invokevirtual 110, 3) := sorry
theorem dX12_part_11 : decode cX12_part 11 = .ok (.ireturn, 1) := sorry
set_option maxHeartbeats 4000000 in
set_option maxRecDepth 100000 in
theorem k_X12_part (l : Launch) (D : va_G) (cy : Nat → ClassId) (ld : Nat → Nat) (t : tk_T) (a0 : Nat) (ht_a0 : t a0 = (13, 0, 0)) : Met l yX12_part (wl yX12_part cX12_part 1 (some .int)) ({ frames := 7, cells := 0, slots := 0, locals := 420 }) (tp D cy ld t [] [.ref a0] (fun H => True)) (ti D cy ld t [] (fun r H => True) (tk_w t [(2, 0, 0), (20, 1, 1), (10, 1, 1), (20, 0, 0), (10, 0, 0), (13, 0, 0)])) 0 0 (tk_w t [(2, 0, 0), (20, 1, 1), (10, 1, 1), (20, 0, 0), (10, 0, 0), (13, 0, 0)]) := by sorry
theorem dX12_dawn_0 : decode cX12_dawn 0 = .ok (.aload_n 0, 1) := sorry
theorem dX12_dawn_1 : decode cX12_dawn 1 = .ok (.aload_n 0, 1) := sorry
theorem dX12_dawn_2 : decode cX12_dawn 2 = .ok (.getfield 38, 3) := sorry
theorem dX12_dawn_5 : decode cX12_dawn 5 = .ok (.invokevirtual 264, 3) := sorry
theorem dX12_dawn_8 : decode cX12_dawn 8 = .ok (.invokevirtual 110, 3) := sorry
theorem dX12_dawn_11 : decode cX12_dawn 11 = .ok (.ireturn, 1) := sorry
set_option maxHeartbeats 4000000 in
set_option maxRecDepth 100000 in
theorem k_X12_dawn (l : Launch) (D : va_G) (cy : Nat → ClassId) (ld : Nat → Nat) (t : tk_T) (a0 : Nat) (ht_a0 : t a0 = (13, 0, 0)) : Met l yX12_dawn (wl yX12_dawn cX12_dawn 1 (some .int)) ({ frames := 8, cells := 0, slots := 0, locals := 490 }) (tp D cy ld t [] [.ref a0] (fun H => True)) (ti D cy ld t [] (fun r H => True) (tk_w t [(2, 0, 0), (20, 1, 1), (10, 1, 1), (20, 0, 0), (10, 0, 0), (12, 0, 0), (9, 0, 0), (13, 0, 0)])) 0 0 (tk_w t [(2, 0, 0), (20, 1, 1), (10, 1, 1), (20, 0, 0), (10, 0, 0), (12, 0, 0), (9, 0, 0), (13, 0, 0)]) := by sorry
theorem dX12_undo_0 : decode cX12_undo 0 = .ok (.aload_n 0, 1) := sorry
theorem dX12_undo_1 : decode cX12_undo 1 = .ok (.aload_n 0, 1) := sorry
theorem dX12_undo_2 : decode cX12_undo 2 = .ok (.getfield 38, 3) := sorry
theorem dX12_undo_5 : decode cX12_undo 5 = .ok (.invokevirtual 267, 3) := sorry
theorem dX12_undo_8 : decode cX12_undo 8 = .ok (.invokevirtual 110, 3) := sorry
theorem dX12_undo_11 : decode cX12_undo 11 = .ok (.ireturn, 1) := sorry
set_option maxHeartbeats 4000000 in
set_option maxRecDepth 100000 in
theorem k_X12_undo (l : Launch) (D : va_G) (cy : Nat → ClassId) (ld : Nat → Nat) (t : tk_T) (a0 : Nat) (ht_a0 : t a0 = (13, 0, 0)) : Met l yX12_undo (wl yX12_undo cX12_undo 1 (some .int)) ({ frames := 6, cells := 0, slots := 0, locals := 350 }) (tp D cy ld t [] [.ref a0] (fun H => True)) (ti D cy ld t [] (fun r H => True) (tk_w t [(2, 0, 0), (20, 0, 0), (10, 0, 0), (13, 0, 0)])) 0 0 (tk_w t [(2, 0, 0), (20, 0, 0), (10, 0, 0), (13, 0, 0)]) := by sorry
theorem dX12_game_0 : decode cX12_game 0 = .ok (.aload_n 0, 1) := sorry
theorem dX12_game_1 : decode cX12_game 1 = .ok (.getfield 10, 3) := sorry
theorem dX12_game_4 : decode cX12_game 4 = .ok (.getfield 118, 3) := sorry
theorem dX12_game_7 : decode cX12_game 7 = .ok (.invokevirtual 218, 3) := sorry
theorem dX12_game_10 : decode cX12_game 10 = .ok (.ifCond .eq 21, 3) := sorry
theorem dX12_game_31 : decode cX12_game 31 = .ok (.sipush (-1000), 3) := sorry
theorem dX12_game_34 : decode cX12_game 34 = .ok (.ireturn, 1) := sorry
theorem dX12_game_13 : decode cX12_game 13 = .ok (.iload_n 1, 1) := sorry
theorem dX12_game_14 : decode cX12_game 14 = .ok (.iconst 1, 1) := sorry
theorem dX12_game_15 : decode cX12_game 15 = .ok (.iconst 4, 1) := sorry
theorem dX12_game_16 : decode cX12_game 16 = .ok (.invokestatic 146, 3) := sorry
theorem dX12_game_19 : decode cX12_game 19 = .ok (.ifCond .eq 12, 3) := sorry
theorem dX12_game_22 : decode cX12_game 22 = .ok (.iload_n 2, 1) := sorry
theorem dX12_game_23 : decode cX12_game 23 = .ok (.iconst 0, 1) := sorry
theorem dX12_game_24 : decode cX12_game 24 = .ok (.iconst 2, 1) := sorry
theorem dX12_game_25 : decode cX12_game 25 = .ok (.invokestatic 146, 3) := sorry
theorem dX12_game_28 : decode cX12_game 28 = .ok (.ifCond .ne 7, 3) := sorry
theorem dX12_game_35 : decode cX12_game 35 = .ok (.aload_n 0, 1) := sorry
theorem dX12_game_36 : decode cX12_game 36 = .ok (.getfield 71, 3) := sorry
theorem dX12_game_39 : decode cX12_game 39 = .ok (.iload_n 1, 1) := sorry
theorem dX12_game_40 : decode cX12_game 40 = .ok (.iload_n 2, 1) := sorry
theorem dX12_game_41 : decode cX12_game 41 = .ok (.invokevirtual 270, 3) := sorry
theorem dX12_game_44 : decode cX12_game 44 = .ok (.ireturn, 1) := sorry
set_option maxHeartbeats 4000000 in
set_option maxRecDepth 100000 in
theorem k_X12_game (l : Launch) (D : va_G) (cy : Nat → ClassId) (ld : Nat → Nat) (t : tk_T) (a0 : Nat) (p1 : Int32) (p2 : Int32) (ht_a0 : t a0 = (13, 0, 0)) : Met l yX12_game (wl yX12_game cX12_game 3 (some .int)) ({ frames := 12, cells := 0, slots := 0, locals := 770 }) (tp D cy ld t [] [.ref a0, .int p1, .int p2] (fun H => True)) (ti D cy ld t [] (fun r H => True) (tk_w t [(6, 0, 0), (20, 10, 10), (10, 10, 10), (20, 0, 0), (12, 0, 0), (9, 0, 0), (20, 11, 11), (10, 11, 11), (20, 12, 12), (10, 12, 12), (20, 13, 13), (10, 13, 13), (20, 14, 14), (10, 14, 14)])) 0 0 (tk_w t [(6, 0, 0), (20, 10, 10), (10, 10, 10), (20, 0, 0), (12, 0, 0), (9, 0, 0), (20, 11, 11), (10, 11, 11), (20, 12, 12), (10, 12, 12), (20, 13, 13), (10, 13, 13), (20, 14, 14), (10, 14, 14)]) := by sorry
theorem dX12_saddle_0 : decode cX12_saddle 0 = .ok (.aload_n 0, 1) := sorry
theorem dX12_saddle_1 : decode cX12_saddle 1 = .ok (.getfield 10, 3) := sorry
theorem dX12_saddle_4 : decode cX12_saddle 4 = .ok (.iload_n 1, 1) := sorry
theorem dX12_saddle_5 : decode cX12_saddle 5 = .ok (.iload_n 2, 1) := sorry
theorem dX12_saddle_6 : decode cX12_saddle 6 = .ok (.invokevirtual 273, 3) := sorry
theorem dX12_saddle_9 : decode cX12_saddle 9 = .ok (.ifCond .eq 13, 3) := sorry
theorem dX12_saddle_22 : decode cX12_saddle 22 = .ok (.sipush (-1000), 3) := sorry
theorem dX12_saddle_25 : decode cX12_saddle 25 = .ok (.ireturn, 1) := sorry
theorem dX12_saddle_12 : decode cX12_saddle 12 = .ok (.aload_n 0, 1) := sorry
theorem dX12_saddle_13 : decode cX12_saddle 13 = .ok (.getfield 10, 3) := sorry
theorem dX12_saddle_16 : decode cX12_saddle 16 = .ok (.getfield 277, 3) := sorry
theorem dX12_saddle_19 : decode cX12_saddle 19 = .ok (.ifCond .ne 7, 3) := sorry
theorem dX12_saddle_26 : decode cX12_saddle 26 = .ok (.iload_n 3, 1) := sorry
theorem dX12_saddle_27 : decode cX12_saddle 27 = .ok (.tableswitch 73 0 3 #[29, 40, 51, 62], 29) := sorry
theorem dX12_saddle_56 : decode cX12_saddle 56 = .ok (.aload_n 0, 1) := sorry
theorem dX12_saddle_57 : decode cX12_saddle 57 = .ok (.getfield 71, 3) := sorry
theorem dX12_saddle_60 : decode cX12_saddle 60 = .ok (.iload_n 1, 1) := sorry
theorem dX12_saddle_61 : decode cX12_saddle 61 = .ok (.iload_n 2, 1) := sorry
theorem dX12_saddle_62 : decode cX12_saddle 62 = .ok (.iconst 0, 1) := sorry
theorem dX12_saddle_63 : decode cX12_saddle 63 = .ok (.invokevirtual 280, 3) := sorry
theorem dX12_saddle_66 : decode cX12_saddle 66 = .ok (.ireturn, 1) := sorry
theorem dX12_saddle_67 : decode cX12_saddle 67 = .ok (.aload_n 0, 1) := sorry
theorem dX12_saddle_68 : decode cX12_saddle 68 = .ok (.getfield 71, 3) := sorry
theorem dX12_saddle_71 : decode cX12_saddle 71 = .ok (.iload_n 1, 1) := sorry
theorem dX12_saddle_72 : decode cX12_saddle 72 = .ok (.iload_n 2, 1) := sorry
theorem dX12_saddle_73 : decode cX12_saddle 73 = .ok (.iconst 0, 1) := sorry
theorem dX12_saddle_74 : decode cX12_saddle 74 = .ok (.invokevirtual 284, 3) := sorry
theorem dX12_saddle_77 : decode cX12_saddle 77 = .ok (.ireturn, 1) := sorry
theorem dX12_saddle_78 : decode cX12_saddle 78 = .ok (.aload_n 0, 1) := sorry
theorem dX12_saddle_79 : decode cX12_saddle 79 = .ok (.getfield 71, 3) := sorry
theorem dX12_saddle_82 : decode cX12_saddle 82 = .ok (.iload_n 1, 1) := sorry
theorem dX12_saddle_83 : decode cX12_saddle 83 = .ok (.iload_n 2, 1) := sorry
theorem dX12_saddle_84 : decode cX12_saddle 84 = .ok (.iconst 1, 1) := sorry
theorem dX12_saddle_85 : decode cX12_saddle 85 = .ok (.invokevirtual 280, 3) := sorry
theorem dX12_saddle_88 : decode cX12_saddle 88 = .ok (.ireturn, 1) := sorry
theorem dX12_saddle_89 : decode cX12_saddle 89 = .ok (.aload_n 0, 1) := sorry
theorem dX12_saddle_90 : decode cX12_saddle 90 = .ok (.getfield 71, 3) := sorry
theorem dX12_saddle_93 : decode cX12_saddle 93 = .ok (.iload_n 1, 1) := sorry
theorem dX12_saddle_94 : decode cX12_saddle 94 = .ok (.iload_n 2, 1) := sorry
theorem dX12_saddle_95 : decode cX12_saddle 95 = .ok (.iconst 1, 1) := sorry
theorem dX12_saddle_96 : decode cX12_saddle 96 = .ok (.invokevirtual 284, 3) := sorry
theorem dX12_saddle_99 : decode cX12_saddle 99 = .ok (.ireturn, 1) := sorry
theorem dX12_saddle_100 : decode cX12_saddle 100 = .ok (.sipush (-1000), 3) := sorry
theorem dX12_saddle_103 : decode cX12_saddle 103 = .ok (.ireturn, 1) := sorry
set_option maxHeartbeats 4000000 in
set_option maxRecDepth 100000 in
theorem k_X12_saddle (l : Launch) (D : va_G) (cy : Nat → ClassId) (ld : Nat → Nat) (t : tk_T) (a0 : Nat) (p1 : Int32) (p2 : Int32) (p3 : Int32) (ht_a0 : t a0 = (13, 0, 0)) : Met l yX12_saddle (wl yX12_saddle cX12_saddle 4 (some .int)) ({ frames := 9, cells := 0, slots := 0, locals := 560 }) (tp D cy ld t [] [.ref a0, .int p1, .int p2, .int p3] (fun H => True)) (ti D cy ld t [] (fun r H => (-1000) ≤ r.toInt ∧ r.toInt ≤ 9) (tk_w t [(20, 4, 4), (10, 4, 4), (20, 0, 0), (12, 0, 0), (9, 0, 0)])) 0 0 (tk_w t [(20, 4, 4), (10, 4, 4), (20, 0, 0), (12, 0, 0), (9, 0, 0)]) := by sorry
theorem dX12_rule_0 : decode cX12_rule 0 = .ok (.aload_n 0, 1) := sorry
theorem dX12_rule_1 : decode cX12_rule 1 = .ok (.getfield 10, 3) := sorry
theorem dX12_rule_4 : decode cX12_rule 4 = .ok (.iload_n 1, 1) := sorry
theorem dX12_rule_5 : decode cX12_rule 5 = .ok (.iload_n 2, 1) := sorry
theorem dX12_rule_6 : decode cX12_rule 6 = .ok (.invokevirtual 273, 3) := sorry
theorem dX12_rule_9 : decode cX12_rule 9 = .ok (.ifCond .eq 15, 3) := sorry
theorem dX12_rule_24 : decode cX12_rule 24 = .ok (.sipush (-1000), 3) := sorry
theorem dX12_rule_27 : decode cX12_rule 27 = .ok (.ireturn, 1) := sorry
theorem dX12_rule_12 : decode cX12_rule 12 = .ok (.aload_n 0, 1) := sorry
theorem dX12_rule_13 : decode cX12_rule 13 = .ok (.getfield 71, 3) := sorry
theorem dX12_rule_16 : decode cX12_rule 16 = .ok (.iload_n 1, 1) := sorry
theorem dX12_rule_17 : decode cX12_rule 17 = .ok (.iload_n 2, 1) := sorry
theorem dX12_rule_18 : decode cX12_rule 18 = .ok (.invokevirtual 287, 3) := sorry
theorem dX12_rule_21 : decode cX12_rule 21 = .ok (.goto 6, 3) := sorry
set_option maxHeartbeats 4000000 in
set_option maxRecDepth 100000 in
theorem k_X12_rule (l : Launch) (D : va_G) (cy : Nat → ClassId) (ld : Nat → Nat) (t : tk_T) (a0 : Nat) (p1 : Int32) (p2 : Int32) (ht_a0 : t a0 = (13, 0, 0)) : Met l yX12_rule (wl yX12_rule cX12_rule 3 (some .int)) ({ frames := 9, cells := 0, slots := 0, locals := 560 }) (tp D cy ld t [] [.ref a0, .int p1, .int p2] (fun H => True)) (ti D cy ld t [] (fun r H => (-1000) ≤ r.toInt ∧ r.toInt ≤ 1) (tk_w t [(20, 4, 4), (10, 4, 4), (20, 0, 0), (12, 0, 0), (9, 0, 0)])) 0 0 (tk_w t [(20, 4, 4), (10, 4, 4), (20, 0, 0), (12, 0, 0), (9, 0, 0)]) := by sorry
theorem dX12_champions_0 : decode cX12_champions 0 = .ok (.iload_n 1, 1) := sorry
theorem dX12_champions_1 : decode cX12_champions 1 = .ok (.iconst 0, 1) := sorry
theorem dX12_champions_2 : decode cX12_champions 2 = .ok (.iconst 1, 1) := sorry
theorem dX12_champions_3 : decode cX12_champions 3 = .ok (.invokestatic 146, 3) := sorry
theorem dX12_champions_6 : decode cX12_champions 6 = .ok (.ifCond .ne 19, 3) := sorry
theorem dX12_champions_25 : decode cX12_champions 25 = .ok (.aload_n 0, 1) := sorry
theorem dX12_champions_26 : decode cX12_champions 26 = .ok (.getfield 71, 3) := sorry
theorem dX12_champions_29 : decode cX12_champions 29 = .ok (.iload_n 1, 1) := sorry
theorem dX12_champions_30 : decode cX12_champions 30 = .ok (.invokevirtual 293, 3) := sorry
theorem dX12_champions_33 : decode cX12_champions 33 = .ok (.ireturn, 1) := sorry
theorem dX12_champions_9 : decode cX12_champions 9 = .ok (.aload_n 0, 1) := sorry
theorem dX12_champions_10 : decode cX12_champions 10 = .ok (.getfield 10, 3) := sorry
theorem dX12_champions_13 : decode cX12_champions 13 = .ok (.iload_n 1, 1) := sorry
theorem dX12_champions_14 : decode cX12_champions 14 = .ok (.iconst 2, 1) := sorry
theorem dX12_champions_15 : decode cX12_champions 15 = .ok (.isub, 1) := sorry
theorem dX12_champions_16 : decode cX12_champions 16 = .ok (.iconst 0, 1) := sorry
theorem dX12_champions_17 : decode cX12_champions 17 = .ok (.invokevirtual 290, 3) := sorry
theorem dX12_champions_20 : decode cX12_champions 20 = .ok (.ifCond .ne 5, 3) := sorry
theorem dX12_champions_23 : decode cX12_champions 23 = .ok (.iconst (-1), 1) := sorry
theorem dX12_champions_24 : decode cX12_champions 24 = .ok (.ireturn, 1) := sorry
set_option maxHeartbeats 4000000 in
set_option maxRecDepth 100000 in
theorem k_X12_champions (l : Launch) (D : va_G) (cy : Nat → ClassId) (ld : Nat → Nat) (t : tk_T) (a0 : Nat) (p1 : Int32) (ht_a0 : t a0 = (13, 0, 0)) : Met l yX12_champions (wl yX12_champions cX12_champions 2 (some .int)) ({ frames := 14, cells := 0, slots := 0, locals := 910 }) (tp D cy ld t [] [.ref a0, .int p1] (fun H => True)) (ti D cy ld t [] (fun r H => True) (tk_w t [(20, 4, 4), (10, 4, 4), (20, 0, 0), (12, 0, 0), (9, 0, 0), (6, 0, 0)])) 0 0 (tk_w t [(20, 4, 4), (10, 4, 4), (20, 0, 0), (12, 0, 0), (9, 0, 0), (6, 0, 0)]) := by sorry
theorem dX12_made_0 : decode cX12_made 0 = .ok (.iload_n 1, 1) := sorry
theorem dX12_made_1 : decode cX12_made 1 = .ok (.iconst 1, 1) := sorry
theorem dX12_made_2 : decode cX12_made 2 = .ok (.bipush 36, 2) := sorry
theorem dX12_made_4 : decode cX12_made 4 = .ok (.invokestatic 146, 3) := sorry
theorem dX12_made_7 : decode cX12_made 7 = .ok (.ifCond .ne 5, 3) := sorry
theorem dX12_made_12 : decode cX12_made 12 = .ok (.aload_n 0, 1) := sorry
theorem dX12_made_13 : decode cX12_made 13 = .ok (.getfield 85, 3) := sorry
theorem dX12_made_16 : decode cX12_made 16 = .ok (.iload_n 1, 1) := sorry
theorem dX12_made_17 : decode cX12_made 17 = .ok (.iload_n 2, 1) := sorry
theorem dX12_made_18 : decode cX12_made 18 = .ok (.invokevirtual 296, 3) := sorry
theorem dX12_made_21 : decode cX12_made 21 = .ok (.ireturn, 1) := sorry
theorem dX12_made_10 : decode cX12_made 10 = .ok (.iconst (-1), 1) := sorry
theorem dX12_made_11 : decode cX12_made 11 = .ok (.ireturn, 1) := sorry
set_option maxHeartbeats 4000000 in
set_option maxRecDepth 100000 in
theorem k_X12_made (l : Launch) (D : va_G) (cy : Nat → ClassId) (ld : Nat → Nat) (t : tk_T) (a0 : Nat) (p1 : Int32) (p2 : Int32) (ht_a0 : t a0 = (13, 0, 0)) : Met l yX12_made (wl yX12_made cX12_made 3 (some .int)) ({ frames := 10, cells := 0, slots := 0, locals := 630 }) (tp D cy ld t [] [.ref a0, .int p1, .int p2] (fun H => True)) (ti D cy ld t [] (fun r H => True) (tk_w t [(4, 0, 0), (22, 0, 0), (20, 0, 0)])) 0 0 (tk_w t [(4, 0, 0), (22, 0, 0), (20, 0, 0)]) := by sorry
theorem dX12_sight_0 : decode cX12_sight 0 = .ok (.iload_n 3, 1) := sorry
theorem dX12_sight_1 : decode cX12_sight 1 = .ok (.iconst 0, 1) := sorry
theorem dX12_sight_2 : decode cX12_sight 2 = .ok (.bipush 11, 2) := sorry
theorem dX12_sight_4 : decode cX12_sight 4 = .ok (.invokestatic 146, 3) := sorry
theorem dX12_sight_7 : decode cX12_sight 7 = .ok (.ifCond .eq 23, 3) := sorry
theorem dX12_sight_30 : decode cX12_sight 30 = .ok (.aload_n 0, 1) := sorry
theorem dX12_sight_31 : decode cX12_sight 31 = .ok (.iconst (-1), 1) := sorry
theorem dX12_sight_32 : decode cX12_sight 32 = .ok (.invokevirtual 159, 3) := sorry
theorem dX12_sight_35 : decode cX12_sight 35 = .ok (.ireturn, 1) := sorry
theorem dX12_sight_10 : decode cX12_sight 10 = .ok (.iload 4, 2) := sorry
theorem dX12_sight_12 : decode cX12_sight 12 = .ok (.iconst 0, 1) := sorry
theorem dX12_sight_13 : decode cX12_sight 13 = .ok (.iconst 1, 1) := sorry
theorem dX12_sight_14 : decode cX12_sight 14 = .ok (.invokestatic 146, 3) := sorry
theorem dX12_sight_17 : decode cX12_sight 17 = .ok (.ifCond .eq 13, 3) := sorry
theorem dX12_sight_20 : decode cX12_sight 20 = .ok (.iload 5, 2) := sorry
theorem dX12_sight_22 : decode cX12_sight 22 = .ok (.iconst 0, 1) := sorry
theorem dX12_sight_23 : decode cX12_sight 23 = .ok (.iconst 1, 1) := sorry
theorem dX12_sight_24 : decode cX12_sight 24 = .ok (.invokestatic 146, 3) := sorry
theorem dX12_sight_27 : decode cX12_sight 27 = .ok (.ifCond .ne 9, 3) := sorry
theorem dX12_sight_36 : decode cX12_sight 36 = .ok (.aload_n 0, 1) := sorry
theorem dX12_sight_37 : decode cX12_sight 37 = .ok (.getfield 10, 3) := sorry
theorem dX12_sight_40 : decode cX12_sight 40 = .ok (.iload_n 1, 1) := sorry
theorem dX12_sight_41 : decode cX12_sight 41 = .ok (.invokevirtual 143, 3) := sorry
theorem dX12_sight_44 : decode cX12_sight 44 = .ok (.ifCond .eq 14, 3) := sorry
theorem dX12_sight_58 : decode cX12_sight 58 = .ok (.aload_n 0, 1) := sorry
theorem dX12_sight_59 : decode cX12_sight 59 = .ok (.bipush (-2), 2) := sorry
theorem dX12_sight_61 : decode cX12_sight 61 = .ok (.invokevirtual 159, 3) := sorry
theorem dX12_sight_64 : decode cX12_sight 64 = .ok (.ireturn, 1) := sorry
theorem dX12_sight_47 : decode cX12_sight 47 = .ok (.aload_n 0, 1) := sorry
theorem dX12_sight_48 : decode cX12_sight 48 = .ok (.getfield 10, 3) := sorry
theorem dX12_sight_51 : decode cX12_sight 51 = .ok (.iload_n 2, 1) := sorry
theorem dX12_sight_52 : decode cX12_sight 52 = .ok (.invokevirtual 114, 3) := sorry
theorem dX12_sight_55 : decode cX12_sight 55 = .ok (.ifCond .ne 10, 3) := sorry
theorem dX12_sight_65 : decode cX12_sight 65 = .ok (.aload_n 0, 1) := sorry
theorem dX12_sight_66 : decode cX12_sight 66 = .ok (.aload_n 0, 1) := sorry
theorem dX12_sight_67 : decode cX12_sight 67 = .ok (.getfield 10, 3) := sorry
theorem dX12_sight_70 : decode cX12_sight 70 = .ok (.iload_n 1, 1) := sorry
theorem dX12_sight_71 : decode cX12_sight 71 = .ok (.iload_n 2, 1) := sorry
theorem dX12_sight_72 : decode cX12_sight 72 = .ok (.iload_n 3, 1) := sorry
theorem dX12_sight_73 : decode cX12_sight 73 = .ok (.iload 4, 2) := sorry
theorem dX12_sight_75 : decode cX12_sight 75 = .ok (.iload 5, 2) := sorry
theorem dX12_sight_77 : decode cX12_sight 77 = .ok (.invokevirtual 299, 3) := sorry
theorem dX12_sight_80 : decode cX12_sight 80 = .ok (.invokevirtual 110, 3) := sorry
theorem dX12_sight_83 : decode cX12_sight 83 = .ok (.ireturn, 1) := sorry
set_option maxHeartbeats 4000000 in
set_option maxRecDepth 100000 in
theorem k_X12_sight (l : Launch) (D : va_G) (cy : Nat → ClassId) (ld : Nat → Nat) (t : tk_T) (a0 : Nat) (p1 : Int32) (p2 : Int32) (p3 : Int32) (p4 : Int32) (p5 : Int32) (ht_a0 : t a0 = (13, 0, 0)) : Met l yX12_sight (wl yX12_sight cX12_sight 6 (some .int)) ({ frames := 6, cells := 0, slots := 0, locals := 350 }) (tp D cy ld t [] [.ref a0, .int p1, .int p2, .int p3, .int p4, .int p5] (fun H => True)) (ti D cy ld t [] (fun r H => True) (tk_w t [(13, 0, 0), (20, 0, 0), (24, 0, 0), (3, 0, 0)])) 0 0 (tk_w t [(13, 0, 0), (20, 0, 0), (24, 0, 0), (3, 0, 0)]) := by sorry
theorem dX12_forget_0 : decode cX12_forget 0 = .ok (.aload_n 0, 1) := sorry
theorem dX12_forget_1 : decode cX12_forget 1 = .ok (.getfield 10, 3) := sorry
theorem dX12_forget_4 : decode cX12_forget 4 = .ok (.getfield 303, 3) := sorry
theorem dX12_forget_7 : decode cX12_forget 7 = .ok (.istore_n 1, 1) := sorry
theorem dX12_forget_8 : decode cX12_forget 8 = .ok (.aload_n 0, 1) := sorry
theorem dX12_forget_9 : decode cX12_forget 9 = .ok (.getfield 10, 3) := sorry
theorem dX12_forget_12 : decode cX12_forget 12 = .ok (.iconst 0, 1) := sorry
theorem dX12_forget_13 : decode cX12_forget 13 = .ok (.putfield 303, 3) := sorry
theorem dX12_forget_16 : decode cX12_forget 16 = .ok (.iload_n 1, 1) := sorry
theorem dX12_forget_17 : decode cX12_forget 17 = .ok (.ireturn, 1) := sorry
set_option maxHeartbeats 4000000 in
set_option maxRecDepth 100000 in
theorem k_X12_forget (l : Launch) (D : va_G) (cy : Nat → ClassId) (ld : Nat → Nat) (t : tk_T) (a0 : Nat) (ht_a0 : t a0 = (13, 0, 0)) : Met l yX12_forget (wl yX12_forget cX12_forget 2 (some .int)) ({ frames := 3, cells := 0, slots := 0, locals := 140 }) (tp D cy ld t [] [.ref a0] (fun H => True)) (ti D cy ld t [] (fun r H => 0 ≤ r.toInt ∧ r.toInt ≤ 8) (tk_w t [(3, 0, 0)])) 0 0 (tk_w t [(3, 0, 0)]) := by sorry
theorem dX12_fits_0 : decode cX12_fits 0 = .ok (.iload_n 1, 1) := sorry
theorem dX12_fits_1 : decode cX12_fits 1 = .ok (.iconst 0, 1) := sorry
theorem dX12_fits_2 : decode cX12_fits 2 = .ok (.bipush 9, 2) := sorry
theorem dX12_fits_4 : decode cX12_fits 4 = .ok (.invokestatic 146, 3) := sorry
theorem dX12_fits_7 : decode cX12_fits 7 = .ok (.ifCond .ne 5, 3) := sorry
theorem dX12_fits_12 : decode cX12_fits 12 = .ok (.iload_n 2, 1) := sorry
theorem dX12_fits_13 : decode cX12_fits 13 = .ok (.tableswitch 54 0 2 #[27, 36, 45], 27) := sorry
theorem dX12_fits_40 : decode cX12_fits 40 = .ok (.aload_n 0, 1) := sorry
theorem dX12_fits_41 : decode cX12_fits 41 = .ok (.getfield 92, 3) := sorry
theorem dX12_fits_44 : decode cX12_fits 44 = .ok (.iload_n 1, 1) := sorry
theorem dX12_fits_45 : decode cX12_fits 45 = .ok (.invokevirtual 306, 3) := sorry
theorem dX12_fits_48 : decode cX12_fits 48 = .ok (.ireturn, 1) := sorry
theorem dX12_fits_49 : decode cX12_fits 49 = .ok (.aload_n 0, 1) := sorry
theorem dX12_fits_50 : decode cX12_fits 50 = .ok (.getfield 92, 3) := sorry
theorem dX12_fits_53 : decode cX12_fits 53 = .ok (.iload_n 1, 1) := sorry
theorem dX12_fits_54 : decode cX12_fits 54 = .ok (.invokevirtual 309, 3) := sorry
theorem dX12_fits_57 : decode cX12_fits 57 = .ok (.ireturn, 1) := sorry
theorem dX12_fits_58 : decode cX12_fits 58 = .ok (.aload_n 0, 1) := sorry
theorem dX12_fits_59 : decode cX12_fits 59 = .ok (.getfield 92, 3) := sorry
theorem dX12_fits_62 : decode cX12_fits 62 = .ok (.iload_n 1, 1) := sorry
theorem dX12_fits_63 : decode cX12_fits 63 = .ok (.invokevirtual 312, 3) := sorry
theorem dX12_fits_66 : decode cX12_fits 66 = .ok (.ireturn, 1) := sorry
theorem dX12_fits_67 : decode cX12_fits 67 = .ok (.aload_n 0, 1) := sorry
theorem dX12_fits_68 : decode cX12_fits 68 = .ok (.getfield 10, 3) := sorry
theorem dX12_fits_71 : decode cX12_fits 71 = .ok (.iload_n 2, 1) := sorry
theorem dX12_fits_72 : decode cX12_fits 72 = .ok (.iconst 3, 1) := sorry
theorem dX12_fits_73 : decode cX12_fits 73 = .ok (.isub, 1) := sorry
theorem dX12_fits_74 : decode cX12_fits 74 = .ok (.invokevirtual 114, 3) := sorry
theorem dX12_fits_77 : decode cX12_fits 77 = .ok (.ifCond .eq 17, 3) := sorry
theorem dX12_fits_94 : decode cX12_fits 94 = .ok (.iconst (-1), 1) := sorry
theorem dX12_fits_95 : decode cX12_fits 95 = .ok (.ireturn, 1) := sorry
theorem dX12_fits_80 : decode cX12_fits 80 = .ok (.aload_n 0, 1) := sorry
theorem dX12_fits_81 : decode cX12_fits 81 = .ok (.getfield 92, 3) := sorry
theorem dX12_fits_84 : decode cX12_fits 84 = .ok (.iload_n 1, 1) := sorry
theorem dX12_fits_85 : decode cX12_fits 85 = .ok (.iload_n 2, 1) := sorry
theorem dX12_fits_86 : decode cX12_fits 86 = .ok (.iconst 3, 1) := sorry
theorem dX12_fits_87 : decode cX12_fits 87 = .ok (.isub, 1) := sorry
theorem dX12_fits_88 : decode cX12_fits 88 = .ok (.invokevirtual 315, 3) := sorry
theorem dX12_fits_91 : decode cX12_fits 91 = .ok (.goto 4, 3) := sorry
theorem dX12_fits_10 : decode cX12_fits 10 = .ok (.iconst (-1), 1) := sorry
theorem dX12_fits_11 : decode cX12_fits 11 = .ok (.ireturn, 1) := sorry
set_option maxHeartbeats 4000000 in
set_option maxRecDepth 100000 in
theorem k_X12_fits (l : Launch) (D : va_G) (cy : Nat → ClassId) (ld : Nat → Nat) (t : tk_T) (a0 : Nat) (p1 : Int32) (p2 : Int32) (ht_a0 : t a0 = (13, 0, 0)) : Met l yX12_fits (wl yX12_fits cX12_fits 3 (some .int)) ({ frames := 10, cells := 0, slots := 0, locals := 630 }) (tp D cy ld t [] [.ref a0, .int p1, .int p2] (fun H => True)) (ti D cy ld t [] (fun r H => (-1) ≤ r.toInt ∧ r.toInt ≤ 999) (tk_w t [(20, 0, 0), (12, 0, 0), (9, 0, 0)])) 0 0 (tk_w t [(20, 0, 0), (12, 0, 0), (9, 0, 0)]) := by sorry
theorem dX12_catching_0 : decode cX12_catching 0 = .ok (.aload_n 0, 1) := sorry
theorem dX12_catching_1 : decode cX12_catching 1 = .ok (.getfield 10, 3) := sorry
theorem dX12_catching_4 : decode cX12_catching 4 = .ok (.iload_n 1, 1) := sorry
theorem dX12_catching_5 : decode cX12_catching 5 = .ok (.invokevirtual 114, 3) := sorry
theorem dX12_catching_8 : decode cX12_catching 8 = .ok (.ifCond .eq 12, 3) := sorry
theorem dX12_catching_20 : decode cX12_catching 20 = .ok (.iconst (-1), 1) := sorry
theorem dX12_catching_21 : decode cX12_catching 21 = .ok (.ireturn, 1) := sorry
theorem dX12_catching_11 : decode cX12_catching 11 = .ok (.iload_n 2, 1) := sorry
theorem dX12_catching_12 : decode cX12_catching 12 = .ok (.iconst 0, 1) := sorry
theorem dX12_catching_13 : decode cX12_catching 13 = .ok (.iconst 1, 1) := sorry
theorem dX12_catching_14 : decode cX12_catching 14 = .ok (.invokestatic 146, 3) := sorry
theorem dX12_catching_17 : decode cX12_catching 17 = .ok (.ifCond .ne 5, 3) := sorry
theorem dX12_catching_22 : decode cX12_catching 22 = .ok (.iload_n 2, 1) := sorry
theorem dX12_catching_23 : decode cX12_catching 23 = .ok (.ifCond .ne 15, 3) := sorry
theorem dX12_catching_38 : decode cX12_catching 38 = .ok (.aload_n 0, 1) := sorry
theorem dX12_catching_39 : decode cX12_catching 39 = .ok (.getfield 10, 3) := sorry
theorem dX12_catching_42 : decode cX12_catching 42 = .ok (.iload_n 1, 1) := sorry
theorem dX12_catching_43 : decode cX12_catching 43 = .ok (.invokevirtual 321, 3) := sorry
theorem dX12_catching_46 : decode cX12_catching 46 = .ok (.ireturn, 1) := sorry
theorem dX12_catching_26 : decode cX12_catching 26 = .ok (.aload_n 0, 1) := sorry
theorem dX12_catching_27 : decode cX12_catching 27 = .ok (.getfield 10, 3) := sorry
theorem dX12_catching_30 : decode cX12_catching 30 = .ok (.iload_n 1, 1) := sorry
theorem dX12_catching_31 : decode cX12_catching 31 = .ok (.iconst 0, 1) := sorry
theorem dX12_catching_32 : decode cX12_catching 32 = .ok (.invokevirtual 318, 3) := sorry
theorem dX12_catching_35 : decode cX12_catching 35 = .ok (.goto 11, 3) := sorry
set_option maxHeartbeats 4000000 in
set_option maxRecDepth 100000 in
theorem k_X12_catching (l : Launch) (D : va_G) (cy : Nat → ClassId) (ld : Nat → Nat) (t : tk_T) (a0 : Nat) (p1 : Int32) (p2 : Int32) (ht_a0 : t a0 = (13, 0, 0)) : Met l yX12_catching (wl yX12_catching cX12_catching 3 (some .int)) ({ frames := 5, cells := 0, slots := 0, locals := 280 }) (tp D cy ld t [] [.ref a0, .int p1, .int p2] (fun H => True)) (ti D cy ld t [] (fun r H => True) (tk_w t [])) 0 0 (tk_w t []) := by sorry
theorem dX12_keep_0 : decode cX12_keep 0 = .ok (.aload_n 0, 1) := sorry
theorem dX12_keep_1 : decode cX12_keep 1 = .ok (.getfield 10, 3) := sorry
theorem dX12_keep_4 : decode cX12_keep 4 = .ok (.iload_n 1, 1) := sorry
theorem dX12_keep_5 : decode cX12_keep 5 = .ok (.invokevirtual 114, 3) := sorry
theorem dX12_keep_8 : decode cX12_keep 8 = .ok (.ifCond .eq 28, 3) := sorry
theorem dX12_keep_36 : decode cX12_keep 36 = .ok (.iconst (-1), 1) := sorry
theorem dX12_keep_37 : decode cX12_keep 37 = .ok (.ireturn, 1) := sorry
theorem dX12_keep_11 : decode cX12_keep 11 = .ok (.aload_n 0, 1) := sorry
theorem dX12_keep_12 : decode cX12_keep 12 = .ok (.getfield 10, 3) := sorry
theorem dX12_keep_15 : decode cX12_keep 15 = .ok (.iload_n 2, 1) := sorry
theorem dX12_keep_16 : decode cX12_keep 16 = .ok (.invokevirtual 114, 3) := sorry
theorem dX12_keep_19 : decode cX12_keep 19 = .ok (.ifCond .eq 17, 3) := sorry
theorem dX12_keep_22 : decode cX12_keep 22 = .ok (.iload_n 1, 1) := sorry
theorem dX12_keep_23 : decode cX12_keep 23 = .ok (.iload_n 2, 1) := sorry
theorem dX12_keep_24 : decode cX12_keep 24 = .ok (.if_icmp .eq 12, 3) := sorry
theorem dX12_keep_27 : decode cX12_keep 27 = .ok (.iload_n 3, 1) := sorry
theorem dX12_keep_28 : decode cX12_keep 28 = .ok (.iconst 0, 1) := sorry
theorem dX12_keep_29 : decode cX12_keep 29 = .ok (.iconst 1, 1) := sorry
theorem dX12_keep_30 : decode cX12_keep 30 = .ok (.invokestatic 146, 3) := sorry
theorem dX12_keep_33 : decode cX12_keep 33 = .ok (.ifCond .ne 5, 3) := sorry
theorem dX12_keep_38 : decode cX12_keep 38 = .ok (.aload_n 0, 1) := sorry
theorem dX12_keep_39 : decode cX12_keep 39 = .ok (.getfield 10, 3) := sorry
theorem dX12_keep_42 : decode cX12_keep 42 = .ok (.iload_n 1, 1) := sorry
theorem dX12_keep_43 : decode cX12_keep 43 = .ok (.iload_n 2, 1) := sorry
theorem dX12_keep_44 : decode cX12_keep 44 = .ok (.invokevirtual 324, 3) := sorry
theorem dX12_keep_47 : decode cX12_keep 47 = .ok (.istore 4, 2) := sorry
theorem dX12_keep_49 : decode cX12_keep 49 = .ok (.iload 4, 2) := sorry
theorem dX12_keep_51 : decode cX12_keep 51 = .ok (.iconst (-1), 1) := sorry
theorem dX12_keep_52 : decode cX12_keep 52 = .ok (.if_icmp .ne 5, 3) := sorry
theorem dX12_keep_57 : decode cX12_keep 57 = .ok (.iload_n 3, 1) := sorry
theorem dX12_keep_58 : decode cX12_keep 58 = .ok (.ifCond .ne 11, 3) := sorry
theorem dX12_keep_69 : decode cX12_keep 69 = .ok (.iload 4, 2) := sorry
theorem dX12_keep_71 : decode cX12_keep 71 = .ok (.ireturn, 1) := sorry
theorem dX12_keep_61 : decode cX12_keep 61 = .ok (.iload 4, 2) := sorry
theorem dX12_keep_63 : decode cX12_keep 63 = .ok (.invokestatic 327, 3) := sorry
theorem dX12_keep_66 : decode cX12_keep 66 = .ok (.goto 5, 3) := sorry
theorem dX12_keep_55 : decode cX12_keep 55 = .ok (.iconst (-1), 1) := sorry
theorem dX12_keep_56 : decode cX12_keep 56 = .ok (.ireturn, 1) := sorry
set_option maxHeartbeats 4000000 in
set_option maxRecDepth 100000 in
theorem k_X12_keep (l : Launch) (D : va_G) (cy : Nat → ClassId) (ld : Nat → Nat) (t : tk_T) (a0 : Nat) (p1 : Int32) (p2 : Int32) (p3 : Int32) (ht_a0 : t a0 = (13, 0, 0)) : Met l yX12_keep (wl yX12_keep cX12_keep 5 (some .int)) ({ frames := 6, cells := 0, slots := 0, locals := 350 }) (tp D cy ld t [] [.ref a0, .int p1, .int p2, .int p3] (fun H => True)) (ti D cy ld t [] (fun r H => (-1) ≤ r.toInt ∧ r.toInt ≤ 1099) (tk_w t [])) 0 0 (tk_w t []) := by sorry
theorem dX12_decade_0 : decode cX12_decade 0 = .ok (.iload_n 1, 1) := sorry
theorem dX12_decade_1 : decode cX12_decade 1 = .ok (.iconst 0, 1) := sorry
theorem dX12_decade_2 : decode cX12_decade 2 = .ok (.ldc_w 332, 3) := sorry
theorem dX12_decade_5 : decode cX12_decade 5 = .ok (.invokestatic 146, 3) := sorry
theorem dX12_decade_8 : decode cX12_decade 8 = .ok (.ifCond .eq 13, 3) := sorry
theorem dX12_decade_21 : decode cX12_decade 21 = .ok (.aload_n 0, 1) := sorry
theorem dX12_decade_22 : decode cX12_decade 22 = .ok (.iconst (-1), 1) := sorry
theorem dX12_decade_23 : decode cX12_decade 23 = .ok (.invokevirtual 159, 3) := sorry
theorem dX12_decade_26 : decode cX12_decade 26 = .ok (.ireturn, 1) := sorry
theorem dX12_decade_11 : decode cX12_decade 11 = .ok (.iload_n 2, 1) := sorry
theorem dX12_decade_12 : decode cX12_decade 12 = .ok (.iconst 1, 1) := sorry
theorem dX12_decade_13 : decode cX12_decade 13 = .ok (.bipush 60, 2) := sorry
theorem dX12_decade_15 : decode cX12_decade 15 = .ok (.invokestatic 146, 3) := sorry
theorem dX12_decade_18 : decode cX12_decade 18 = .ok (.ifCond .ne 9, 3) := sorry
theorem dX12_decade_27 : decode cX12_decade 27 = .ok (.aload_n 0, 1) := sorry
theorem dX12_decade_28 : decode cX12_decade 28 = .ok (.getfield 10, 3) := sorry
theorem dX12_decade_31 : decode cX12_decade 31 = .ok (.getfield 277, 3) := sorry
theorem dX12_decade_34 : decode cX12_decade 34 = .ok (.ifCond .eq 25, 3) := sorry
theorem dX12_decade_59 : decode cX12_decade 59 = .ok (.aload_n 0, 1) := sorry
theorem dX12_decade_60 : decode cX12_decade 60 = .ok (.bipush (-3), 2) := sorry
theorem dX12_decade_62 : decode cX12_decade 62 = .ok (.invokevirtual 159, 3) := sorry
theorem dX12_decade_65 : decode cX12_decade 65 = .ok (.ireturn, 1) := sorry
theorem dX12_decade_37 : decode cX12_decade 37 = .ok (.aload_n 0, 1) := sorry
theorem dX12_decade_38 : decode cX12_decade 38 = .ok (.getfield 10, 3) := sorry
theorem dX12_decade_41 : decode cX12_decade 41 = .ok (.iconst 0, 1) := sorry
theorem dX12_decade_42 : decode cX12_decade 42 = .ok (.invokevirtual 333, 3) := sorry
theorem dX12_decade_45 : decode cX12_decade 45 = .ok (.ifCond .eq 14, 3) := sorry
theorem dX12_decade_48 : decode cX12_decade 48 = .ok (.aload_n 0, 1) := sorry
theorem dX12_decade_49 : decode cX12_decade 49 = .ok (.getfield 10, 3) := sorry
theorem dX12_decade_52 : decode cX12_decade 52 = .ok (.iconst 1, 1) := sorry
theorem dX12_decade_53 : decode cX12_decade 53 = .ok (.invokevirtual 333, 3) := sorry
theorem dX12_decade_56 : decode cX12_decade 56 = .ok (.ifCond .ne 10, 3) := sorry
theorem dX12_decade_66 : decode cX12_decade 66 = .ok (.aload_n 0, 1) := sorry
theorem dX12_decade_67 : decode cX12_decade 67 = .ok (.aload_n 0, 1) := sorry
theorem dX12_decade_68 : decode cX12_decade 68 = .ok (.getfield 78, 3) := sorry
theorem dX12_decade_71 : decode cX12_decade 71 = .ok (.iload_n 1, 1) := sorry
theorem dX12_decade_72 : decode cX12_decade 72 = .ok (.iload_n 2, 1) := sorry
theorem dX12_decade_73 : decode cX12_decade 73 = .ok (.invokevirtual 336, 3) := sorry
theorem dX12_decade_76 : decode cX12_decade 76 = .ok (.invokevirtual 165, 3) := sorry
theorem dX12_decade_79 : decode cX12_decade 79 = .ok (.ireturn, 1) := sorry
set_option maxHeartbeats 4000000 in
set_option maxRecDepth 100000 in
theorem k_X12_decade (l : Launch) (D : va_G) (cy : Nat → ClassId) (ld : Nat → Nat) (t : tk_T) (a0 : Nat) (p1 : Int32) (p2 : Int32) (ht_a0 : t a0 = (13, 0, 0)) : Met l yX12_decade (wl yX12_decade cX12_decade 3 (some .int)) ({ frames := 9, cells := 0, slots := 0, locals := 560 }) (tp D cy ld t [] [.ref a0, .int p1, .int p2] (fun H => True)) (ti D cy ld t [] (fun r H => True) (tk_w t [(13, 0, 0), (20, 0, 0), (1, 0, 0), (20, 5, 5), (10, 5, 5), (12, 0, 0), (9, 0, 0), (22, 0, 0)])) 0 0 (tk_w t [(13, 0, 0), (20, 0, 0), (1, 0, 0), (20, 5, 5), (10, 5, 5), (12, 0, 0), (9, 0, 0), (22, 0, 0)]) := by sorry
theorem dX12_drawn_0 : decode cX12_drawn 0 = .ok (.iload_n 2, 1) := sorry
theorem dX12_drawn_1 : decode cX12_drawn 1 = .ok (.tableswitch 128 0 2 #[27, 61, 97], 27) := sorry
theorem dX12_drawn_28 : decode cX12_drawn 28 = .ok (.iload_n 1, 1) := sorry
theorem dX12_drawn_29 : decode cX12_drawn 29 = .ok (.iconst 0, 1) := sorry
theorem dX12_drawn_30 : decode cX12_drawn 30 = .ok (.aload_n 0, 1) := sorry
theorem dX12_drawn_31 : decode cX12_drawn 31 = .ok (.getfield 78, 3) := sorry
theorem dX12_drawn_34 : decode cX12_drawn 34 = .ok (.getfield 338, 3) := sorry
theorem dX12_drawn_37 : decode cX12_drawn 37 = .ok (.iconst 1, 1) := sorry
theorem dX12_drawn_38 : decode cX12_drawn 38 = .ok (.isub, 1) := sorry
theorem dX12_drawn_39 : decode cX12_drawn 39 = .ok (.invokestatic 146, 3) := sorry
theorem dX12_drawn_42 : decode cX12_drawn 42 = .ok (.ifCond .eq 18, 3) := sorry
theorem dX12_drawn_60 : decode cX12_drawn 60 = .ok (.iconst (-1), 1) := sorry
theorem dX12_drawn_61 : decode cX12_drawn 61 = .ok (.ireturn, 1) := sorry
theorem dX12_drawn_45 : decode cX12_drawn 45 = .ok (.aload_n 0, 1) := sorry
theorem dX12_drawn_46 : decode cX12_drawn 46 = .ok (.getfield 78, 3) := sorry
theorem dX12_drawn_49 : decode cX12_drawn 49 = .ok (.getfield 341, 3) := sorry
theorem dX12_drawn_52 : decode cX12_drawn 52 = .ok (.getfield 122, 3) := sorry
theorem dX12_drawn_55 : decode cX12_drawn 55 = .ok (.iload_n 1, 1) := sorry
theorem dX12_drawn_56 : decode cX12_drawn 56 = .ok (.iaload, 1) := sorry
theorem dX12_drawn_57 : decode cX12_drawn 57 = .ok (.goto 4, 3) := sorry
theorem dX12_drawn_62 : decode cX12_drawn 62 = .ok (.aload_n 0, 1) := sorry
theorem dX12_drawn_63 : decode cX12_drawn 63 = .ok (.getfield 78, 3) := sorry
theorem dX12_drawn_66 : decode cX12_drawn 66 = .ok (.getfield 338, 3) := sorry
theorem dX12_drawn_69 : decode cX12_drawn 69 = .ok (.ifCond .le 27, 3) := sorry
theorem dX12_drawn_96 : decode cX12_drawn 96 = .ok (.iconst (-1), 1) := sorry
theorem dX12_drawn_97 : decode cX12_drawn 97 = .ok (.ireturn, 1) := sorry
theorem dX12_drawn_72 : decode cX12_drawn 72 = .ok (.iload_n 1, 1) := sorry
theorem dX12_drawn_73 : decode cX12_drawn 73 = .ok (.iconst 0, 1) := sorry
theorem dX12_drawn_74 : decode cX12_drawn 74 = .ok (.iconst 1, 1) := sorry
theorem dX12_drawn_75 : decode cX12_drawn 75 = .ok (.invokestatic 146, 3) := sorry
theorem dX12_drawn_78 : decode cX12_drawn 78 = .ok (.ifCond .eq 18, 3) := sorry
theorem dX12_drawn_81 : decode cX12_drawn 81 = .ok (.aload_n 0, 1) := sorry
theorem dX12_drawn_82 : decode cX12_drawn 82 = .ok (.getfield 78, 3) := sorry
theorem dX12_drawn_85 : decode cX12_drawn 85 = .ok (.getfield 341, 3) := sorry
theorem dX12_drawn_88 : decode cX12_drawn 88 = .ok (.getfield 168, 3) := sorry
theorem dX12_drawn_91 : decode cX12_drawn 91 = .ok (.iload_n 1, 1) := sorry
theorem dX12_drawn_92 : decode cX12_drawn 92 = .ok (.iaload, 1) := sorry
theorem dX12_drawn_93 : decode cX12_drawn 93 = .ok (.goto 4, 3) := sorry
theorem dX12_drawn_98 : decode cX12_drawn 98 = .ok (.iload_n 1, 1) := sorry
theorem dX12_drawn_99 : decode cX12_drawn 99 = .ok (.iconst 0, 1) := sorry
theorem dX12_drawn_100 : decode cX12_drawn 100 = .ok (.aload_n 0, 1) := sorry
theorem dX12_drawn_101 : decode cX12_drawn 101 = .ok (.getfield 78, 3) := sorry
theorem dX12_drawn_104 : decode cX12_drawn 104 = .ok (.getfield 338, 3) := sorry
theorem dX12_drawn_107 : decode cX12_drawn 107 = .ok (.iconst 1, 1) := sorry
theorem dX12_drawn_108 : decode cX12_drawn 108 = .ok (.isub, 1) := sorry
theorem dX12_drawn_109 : decode cX12_drawn 109 = .ok (.invokestatic 146, 3) := sorry
theorem dX12_drawn_112 : decode cX12_drawn 112 = .ok (.ifCond .eq 15, 3) := sorry
theorem dX12_drawn_127 : decode cX12_drawn 127 = .ok (.iconst (-1), 1) := sorry
theorem dX12_drawn_128 : decode cX12_drawn 128 = .ok (.ireturn, 1) := sorry
theorem dX12_drawn_115 : decode cX12_drawn 115 = .ok (.aload_n 0, 1) := sorry
theorem dX12_drawn_116 : decode cX12_drawn 116 = .ok (.getfield 78, 3) := sorry
theorem dX12_drawn_119 : decode cX12_drawn 119 = .ok (.getfield 342, 3) := sorry
theorem dX12_drawn_122 : decode cX12_drawn 122 = .ok (.iload_n 1, 1) := sorry
theorem dX12_drawn_123 : decode cX12_drawn 123 = .ok (.iaload, 1) := sorry
theorem dX12_drawn_124 : decode cX12_drawn 124 = .ok (.goto 4, 3) := sorry
theorem dX12_drawn_129 : decode cX12_drawn 129 = .ok (.iconst (-1), 1) := sorry
theorem dX12_drawn_130 : decode cX12_drawn 130 = .ok (.ireturn, 1) := sorry
set_option maxHeartbeats 4000000 in
set_option maxRecDepth 100000 in
theorem k_X12_drawn (l : Launch) (D : va_G) (cy : Nat → ClassId) (ld : Nat → Nat) (t : tk_T) (a0 : Nat) (p1 : Int32) (p2 : Int32) (ht_a0 : t a0 = (13, 0, 0)) : Met l yX12_drawn (wl yX12_drawn cX12_drawn 3 (some .int)) ({ frames := 4, cells := 0, slots := 0, locals := 210 }) (tp D cy ld t [] [.ref a0, .int p1, .int p2] (fun H => True)) (ti D cy ld t [] (fun r H => True) (tk_w t [])) 0 0 (tk_w t []) := by sorry
theorem dX12_image_0 : decode cX12_image 0 = .ok (.iload_n 1, 1) := sorry
theorem dX12_image_1 : decode cX12_image 1 = .ok (.iconst 0, 1) := sorry
theorem dX12_image_2 : decode cX12_image 2 = .ok (.iconst 1, 1) := sorry
theorem dX12_image_3 : decode cX12_image 3 = .ok (.invokestatic 146, 3) := sorry
theorem dX12_image_6 : decode cX12_image 6 = .ok (.ifCond .ne 9, 3) := sorry
theorem dX12_image_15 : decode cX12_image 15 = .ok (.aload_n 0, 1) := sorry
theorem dX12_image_16 : decode cX12_image 16 = .ok (.getfield 16, 3) := sorry
theorem dX12_image_19 : decode cX12_image 19 = .ok (.iload_n 1, 1) := sorry
theorem dX12_image_20 : decode cX12_image 20 = .ok (.aaload, 1) := sorry
theorem dX12_image_21 : decode cX12_image 21 = .ok (.aload_n 0, 1) := sorry
theorem dX12_image_22 : decode cX12_image 22 = .ok (.getfield 10, 3) := sorry
theorem dX12_image_25 : decode cX12_image 25 = .ok (.invokevirtual 345, 3) := sorry
theorem dX12_image_28 : decode cX12_image 28 = .ok (.aload_n 0, 1) := sorry
theorem dX12_image_29 : decode cX12_image 29 = .ok (.getfield 20, 3) := sorry
theorem dX12_image_32 : decode cX12_image 32 = .ok (.iload_n 1, 1) := sorry
theorem dX12_image_33 : decode cX12_image 33 = .ok (.iconst 1, 1) := sorry
theorem dX12_image_34 : decode cX12_image 34 = .ok (.bastore, 1) := sorry
theorem dX12_image_35 : decode cX12_image 35 = .ok (.aload_n 0, 1) := sorry
theorem dX12_image_36 : decode cX12_image 36 = .ok (.iconst 0, 1) := sorry
theorem dX12_image_37 : decode cX12_image 37 = .ok (.invokevirtual 165, 3) := sorry
theorem dX12_image_40 : decode cX12_image 40 = .ok (.ireturn, 1) := sorry
theorem dX12_image_9 : decode cX12_image 9 = .ok (.aload_n 0, 1) := sorry
theorem dX12_image_10 : decode cX12_image 10 = .ok (.iconst (-1), 1) := sorry
theorem dX12_image_11 : decode cX12_image 11 = .ok (.invokevirtual 159, 3) := sorry
theorem dX12_image_14 : decode cX12_image 14 = .ok (.ireturn, 1) := sorry
set_option maxHeartbeats 4000000 in
set_option maxRecDepth 100000 in
theorem k_X12_image (l : Launch) (D : va_G) (cy : Nat → ClassId) (ld : Nat → Nat) (t : tk_T) (a0 : Nat) (p1 : Int32) (ht_a0 : t a0 = (13, 0, 0)) : Met l yX12_image (wl yX12_image cX12_image 2 (some .int)) ({ frames := 6, cells := 0, slots := 0, locals := 350 }) (tp D cy ld t [] [.ref a0, .int p1] (fun H => True)) (ti D cy ld t [] (fun r H => True) (tk_w t [(3, 6 + p1.toNatClampNeg, 6 + p1.toNatClampNeg), (20, 6 + p1.toNatClampNeg, 6 + p1.toNatClampNeg), (21, 6 + p1.toNatClampNeg, 6 + p1.toNatClampNeg), (32, 6 + p1.toNatClampNeg, 6 + p1.toNatClampNeg), (33, 6 + p1.toNatClampNeg, 6 + p1.toNatClampNeg), (34, 6 + p1.toNatClampNeg, 6 + p1.toNatClampNeg), (35, 6 + p1.toNatClampNeg, 6 + p1.toNatClampNeg), (36, 6 + p1.toNatClampNeg, 6 + p1.toNatClampNeg), (37, 6 + p1.toNatClampNeg, 6 + p1.toNatClampNeg), (24, 6 + p1.toNatClampNeg, 6 + p1.toNatClampNeg), (28, 6 + p1.toNatClampNeg, 6 + p1.toNatClampNeg), (10, 6 + p1.toNatClampNeg, 6 + p1.toNatClampNeg), (29, 0, 0), (13, 0, 0), (20, 0, 0)])) 0 0 (tk_w t [(3, 6 + p1.toNatClampNeg, 6 + p1.toNatClampNeg), (20, 6 + p1.toNatClampNeg, 6 + p1.toNatClampNeg), (21, 6 + p1.toNatClampNeg, 6 + p1.toNatClampNeg), (32, 6 + p1.toNatClampNeg, 6 + p1.toNatClampNeg), (33, 6 + p1.toNatClampNeg, 6 + p1.toNatClampNeg), (34, 6 + p1.toNatClampNeg, 6 + p1.toNatClampNeg), (35, 6 + p1.toNatClampNeg, 6 + p1.toNatClampNeg), (36, 6 + p1.toNatClampNeg, 6 + p1.toNatClampNeg), (37, 6 + p1.toNatClampNeg, 6 + p1.toNatClampNeg), (24, 6 + p1.toNatClampNeg, 6 + p1.toNatClampNeg), (28, 6 + p1.toNatClampNeg, 6 + p1.toNatClampNeg), (10, 6 + p1.toNatClampNeg, 6 + p1.toNatClampNeg), (29, 0, 0), (13, 0, 0), (20, 0, 0)]) := by sorry
end

section
theorem dX12_back_0 : decode cX12_back 0 = .ok (.iload_n 1, 1) := sorry
theorem dX12_back_1 : decode cX12_back 1 = .ok (.iconst 0, 1) := sorry
theorem dX12_back_2 : decode cX12_back 2 = .ok (.iconst 1, 1) := sorry
theorem dX12_back_3 : decode cX12_back 3 = .ok (.invokestatic 146, 3) := sorry
theorem dX12_back_6 : decode cX12_back 6 = .ok (.ifCond .ne 9, 3) := sorry
theorem dX12_back_15 : decode cX12_back 15 = .ok (.aload_n 0, 1) := sorry
theorem dX12_back_16 : decode cX12_back 16 = .ok (.getfield 20, 3) := sorry
theorem dX12_back_19 : decode cX12_back 19 = .ok (.iload_n 1, 1) := sorry
theorem dX12_back_20 : decode cX12_back 20 = .ok (.baload, 1) := sorry
theorem dX12_back_21 : decode cX12_back 21 = .ok (.ifCond .ne 10, 3) := sorry
theorem dX12_back_31 : decode cX12_back 31 = .ok (.aload_n 0, 1) := sorry
theorem dX12_back_32 : decode cX12_back 32 = .ok (.getfield 10, 3) := sorry
theorem dX12_back_35 : decode cX12_back 35 = .ok (.aload_n 0, 1) := sorry
theorem dX12_back_36 : decode cX12_back 36 = .ok (.getfield 16, 3) := sorry
theorem dX12_back_39 : decode cX12_back 39 = .ok (.iload_n 1, 1) := sorry
theorem dX12_back_40 : decode cX12_back 40 = .ok (.aaload, 1) := sorry
theorem dX12_back_41 : decode cX12_back 41 = .ok (.invokevirtual 345, 3) := sorry
theorem dX12_back_44 : decode cX12_back 44 = .ok (.aload_n 0, 1) := sorry
theorem dX12_back_45 : decode cX12_back 45 = .ok (.getfield 38, 3) := sorry
theorem dX12_back_48 : decode cX12_back 48 = .ok (.invokevirtual 107, 3) := sorry
theorem dX12_back_51 : decode cX12_back 51 = .ok (.aload_n 0, 1) := sorry
theorem dX12_back_52 : decode cX12_back 52 = .ok (.iconst 0, 1) := sorry
theorem dX12_back_53 : decode cX12_back 53 = .ok (.invokevirtual 165, 3) := sorry
theorem dX12_back_56 : decode cX12_back 56 = .ok (.ireturn, 1) := sorry
theorem dX12_back_24 : decode cX12_back 24 = .ok (.aload_n 0, 1) := sorry
theorem dX12_back_25 : decode cX12_back 25 = .ok (.bipush (-2), 2) := sorry
theorem dX12_back_27 : decode cX12_back 27 = .ok (.invokevirtual 159, 3) := sorry
theorem dX12_back_30 : decode cX12_back 30 = .ok (.ireturn, 1) := sorry
theorem dX12_back_9 : decode cX12_back 9 = .ok (.aload_n 0, 1) := sorry
theorem dX12_back_10 : decode cX12_back 10 = .ok (.iconst (-1), 1) := sorry
theorem dX12_back_11 : decode cX12_back 11 = .ok (.invokevirtual 159, 3) := sorry
theorem dX12_back_14 : decode cX12_back 14 = .ok (.ireturn, 1) := sorry
set_option maxHeartbeats 4000000 in
set_option maxRecDepth 100000 in
theorem k_X12_back (l : Launch) (D : va_G) (cy : Nat → ClassId) (ld : Nat → Nat) (t : tk_T) (a0 : Nat) (p1 : Int32) (ht_a0 : t a0 = (13, 0, 0)) : Met l yX12_back (wl yX12_back cX12_back 2 (some .int)) ({ frames := 6, cells := 0, slots := 0, locals := 350 }) (tp D cy ld t [] [.ref a0, .int p1] (fun H => True)) (ti D cy ld t [] (fun r H => True) (tk_w t [(3, 0, 0), (20, 0, 0), (21, 0, 0), (32, 0, 0), (33, 0, 0), (34, 0, 0), (35, 0, 0), (36, 0, 0), (37, 0, 0), (24, 0, 0), (28, 0, 0), (10, 0, 0), (2, 0, 0), (13, 0, 0)])) 0 0 (tk_w t [(3, 0, 0), (20, 0, 0), (21, 0, 0), (32, 0, 0), (33, 0, 0), (34, 0, 0), (35, 0, 0), (36, 0, 0), (37, 0, 0), (24, 0, 0), (28, 0, 0), (10, 0, 0), (2, 0, 0), (13, 0, 0)]) := by sorry
theorem dX12_count_0 : decode cX12_count 0 = .ok (.iload_n 1, 1) := sorry
theorem dX12_count_1 : decode cX12_count 1 = .ok (.tableswitch 162 0 14 #[75, 83, 91, 99, 107, 115, 123, 162, 162, 162, 162, 162, 128, 136, 149], 75) := sorry
theorem dX12_count_76 : decode cX12_count 76 = .ok (.aload_n 0, 1) := sorry
theorem dX12_count_77 : decode cX12_count 77 = .ok (.getfield 10, 3) := sorry
theorem dX12_count_80 : decode cX12_count 80 = .ok (.getfield 348, 3) := sorry
theorem dX12_count_83 : decode cX12_count 83 = .ok (.ireturn, 1) := sorry
theorem dX12_count_84 : decode cX12_count 84 = .ok (.aload_n 0, 1) := sorry
theorem dX12_count_85 : decode cX12_count 85 = .ok (.getfield 10, 3) := sorry
theorem dX12_count_88 : decode cX12_count 88 = .ok (.getfield 277, 3) := sorry
theorem dX12_count_91 : decode cX12_count 91 = .ok (.ireturn, 1) := sorry
theorem dX12_count_92 : decode cX12_count 92 = .ok (.aload_n 0, 1) := sorry
theorem dX12_count_93 : decode cX12_count 93 = .ok (.getfield 10, 3) := sorry
theorem dX12_count_96 : decode cX12_count 96 = .ok (.getfield 349, 3) := sorry
theorem dX12_count_99 : decode cX12_count 99 = .ok (.ireturn, 1) := sorry
theorem dX12_count_100 : decode cX12_count 100 = .ok (.aload_n 0, 1) := sorry
theorem dX12_count_101 : decode cX12_count 101 = .ok (.getfield 10, 3) := sorry
theorem dX12_count_104 : decode cX12_count 104 = .ok (.getfield 303, 3) := sorry
theorem dX12_count_107 : decode cX12_count 107 = .ok (.ireturn, 1) := sorry
theorem dX12_count_108 : decode cX12_count 108 = .ok (.aload_n 0, 1) := sorry
theorem dX12_count_109 : decode cX12_count 109 = .ok (.getfield 10, 3) := sorry
theorem dX12_count_112 : decode cX12_count 112 = .ok (.getfield 188, 3) := sorry
theorem dX12_count_115 : decode cX12_count 115 = .ok (.ireturn, 1) := sorry
theorem dX12_count_116 : decode cX12_count 116 = .ok (.aload_n 0, 1) := sorry
theorem dX12_count_117 : decode cX12_count 117 = .ok (.getfield 38, 3) := sorry
theorem dX12_count_120 : decode cX12_count 120 = .ok (.getfield 352, 3) := sorry
theorem dX12_count_123 : decode cX12_count 123 = .ok (.ireturn, 1) := sorry
theorem dX12_count_124 : decode cX12_count 124 = .ok (.aload_n 0, 1) := sorry
theorem dX12_count_125 : decode cX12_count 125 = .ok (.getfield 178, 3) := sorry
theorem dX12_count_128 : decode cX12_count 128 = .ok (.ireturn, 1) := sorry
theorem dX12_count_163 : decode cX12_count 163 = .ok (.iload_n 1, 1) := sorry
theorem dX12_count_164 : decode cX12_count 164 = .ok (.bipush 7, 2) := sorry
theorem dX12_count_166 : decode cX12_count 166 = .ok (.bipush 11, 2) := sorry
theorem dX12_count_168 : decode cX12_count 168 = .ok (.invokestatic 146, 3) := sorry
theorem dX12_count_171 : decode cX12_count 171 = .ok (.ifCond .eq 13, 3) := sorry
theorem dX12_count_184 : decode cX12_count 184 = .ok (.iload_n 1, 1) := sorry
theorem dX12_count_185 : decode cX12_count 185 = .ok (.bipush 15, 2) := sorry
theorem dX12_count_187 : decode cX12_count 187 = .ok (.bipush 18, 2) := sorry
theorem dX12_count_189 : decode cX12_count 189 = .ok (.invokestatic 146, 3) := sorry
theorem dX12_count_192 : decode cX12_count 192 = .ok (.ifCond .eq 17, 3) := sorry
theorem dX12_count_209 : decode cX12_count 209 = .ok (.iconst (-1), 1) := sorry
theorem dX12_count_210 : decode cX12_count 210 = .ok (.ireturn, 1) := sorry
theorem dX12_count_195 : decode cX12_count 195 = .ok (.aload_n 0, 1) := sorry
theorem dX12_count_196 : decode cX12_count 196 = .ok (.getfield 10, 3) := sorry
theorem dX12_count_199 : decode cX12_count 199 = .ok (.iload_n 1, 1) := sorry
theorem dX12_count_200 : decode cX12_count 200 = .ok (.bipush 15, 2) := sorry
theorem dX12_count_202 : decode cX12_count 202 = .ok (.isub, 1) := sorry
theorem dX12_count_203 : decode cX12_count 203 = .ok (.invokevirtual 171, 3) := sorry
theorem dX12_count_206 : decode cX12_count 206 = .ok (.goto 4, 3) := sorry
theorem dX12_count_174 : decode cX12_count 174 = .ok (.aload_n 0, 1) := sorry
theorem dX12_count_175 : decode cX12_count 175 = .ok (.getfield 96, 3) := sorry
theorem dX12_count_178 : decode cX12_count 178 = .ok (.iload_n 1, 1) := sorry
theorem dX12_count_179 : decode cX12_count 179 = .ok (.bipush 7, 2) := sorry
theorem dX12_count_181 : decode cX12_count 181 = .ok (.isub, 1) := sorry
theorem dX12_count_182 : decode cX12_count 182 = .ok (.iaload, 1) := sorry
theorem dX12_count_183 : decode cX12_count 183 = .ok (.ireturn, 1) := sorry
theorem dX12_count_129 : decode cX12_count 129 = .ok (.aload_n 0, 1) := sorry
theorem dX12_count_130 : decode cX12_count 130 = .ok (.getfield 10, 3) := sorry
theorem dX12_count_133 : decode cX12_count 133 = .ok (.getfield 215, 3) := sorry
theorem dX12_count_136 : decode cX12_count 136 = .ok (.ireturn, 1) := sorry
theorem dX12_count_137 : decode cX12_count 137 = .ok (.aload_n 0, 1) := sorry
theorem dX12_count_138 : decode cX12_count 138 = .ok (.getfield 10, 3) := sorry
theorem dX12_count_141 : decode cX12_count 141 = .ok (.getfield 118, 3) := sorry
theorem dX12_count_144 : decode cX12_count 144 = .ok (.getfield 168, 3) := sorry
theorem dX12_count_147 : decode cX12_count 147 = .ok (.iconst 0, 1) := sorry
theorem dX12_count_148 : decode cX12_count 148 = .ok (.iaload, 1) := sorry
theorem dX12_count_149 : decode cX12_count 149 = .ok (.ireturn, 1) := sorry
theorem dX12_count_150 : decode cX12_count 150 = .ok (.aload_n 0, 1) := sorry
theorem dX12_count_151 : decode cX12_count 151 = .ok (.getfield 10, 3) := sorry
theorem dX12_count_154 : decode cX12_count 154 = .ok (.getfield 118, 3) := sorry
theorem dX12_count_157 : decode cX12_count 157 = .ok (.getfield 168, 3) := sorry
theorem dX12_count_160 : decode cX12_count 160 = .ok (.iconst 1, 1) := sorry
theorem dX12_count_161 : decode cX12_count 161 = .ok (.iaload, 1) := sorry
theorem dX12_count_162 : decode cX12_count 162 = .ok (.ireturn, 1) := sorry
set_option maxHeartbeats 4000000 in
set_option maxRecDepth 100000 in
theorem k_X12_count (l : Launch) (D : va_G) (cy : Nat → ClassId) (ld : Nat → Nat) (t : tk_T) (a0 : Nat) (p1 : Int32) (ht_a0 : t a0 = (13, 0, 0)) : Met l yX12_count (wl yX12_count cX12_count 2 (some .int)) ({ frames := 4, cells := 0, slots := 0, locals := 210 }) (tp D cy ld t [] [.ref a0, .int p1] (fun H => True)) (ti D cy ld t [] (fun r H => True) (tk_w t [])) 0 0 (tk_w t []) := by sorry
theorem dX12_status_0 : decode cX12_status 0 = .ok (.aload_n 0, 1) := sorry
theorem dX12_status_1 : decode cX12_status 1 = .ok (.getfield 355, 3) := sorry
theorem dX12_status_4 : decode cX12_status 4 = .ok (.ireturn, 1) := sorry
set_option maxHeartbeats 4000000 in
set_option maxRecDepth 100000 in
theorem k_X12_status (l : Launch) (D : va_G) (cy : Nat → ClassId) (ld : Nat → Nat) (t : tk_T) (a0 : Nat) (ht_a0 : t a0 = (13, 0, 0)) : Met l yX12_status (wl yX12_status cX12_status 1 (some .int)) ({ frames := 3, cells := 0, slots := 0, locals := 140 }) (tp D cy ld t [] [.ref a0] (fun H => True)) (ti D cy ld t [] (fun r H => True) (tk_w t [])) 0 0 (tk_w t []) := by sorry
end

section
/-! kinds that grow: law() makes a Script -/
def tk_ext (t t' : tk_T) : Prop := ∀ a : Nat, (t a).1 ≠ 0 → t' a = t a
def tk_okS (sp : tk_S) : Prop := ((sp.1 = 1 ∨ sp.1 = 2 ∨ sp.1 = 3 ∨ sp.1 = 6) → sp.2.1.toNat ≠ 0) ∧ ((sp.1 = 8 ∨ sp.1 = 9 ∨ sp.1 = 10 ∨ sp.1 = 11) → sp.2.2.1.toNat ≠ 0)
def tk_okF : Prop := ∀ k : Nat, k < 20 → ∀ sp ∈ tk_F k, tk_okS sp
theorem tk_V.mono {ld : Nat → Nat} {t t' : tk_T} {n r : Nat} {sp : tk_S} {v : Value} (hx : tk_ext t t') (hs : tk_okS sp) (h : tk_V ld t n r sp v) : tk_V ld t' n r sp v := by sorry
theorem tk_R.mono {ld : Nat → Nat} {t t' : tk_T} {k r j : Nat} {o : Option Nat} (hx : tk_ext t t') (h : tk_R ld t k r j o) : tk_R ld t' k r j o := by sorry
theorem tk_A.mono {cy : Nat → ClassId} {ld : Nat → Nat} {t t' : tk_T} {k n r : Nat} {e : va_E} (hx : tk_ext t t') (h : tk_A cy ld t k n r e) : tk_A cy ld t' k n r e := by sorry
theorem tk_O.mono {cy : Nat → ClassId} {ld : Nat → Nat} {t t' : tk_T} {k n r : Nat} {e : va_E} (hF : tk_okF) (hx : tk_ext t t') (h : tk_O cy ld t k n r e) : tk_O cy ld t' k n r e := by sorry
theorem tk_G.grow {D : va_G} {cy : Nat → ClassId} {ld : Nat → Nat} {t t' : tk_T} {H : Heap} (hF : tk_okF) (hG : tk_G D cy ld t [] H) (hx : tk_ext t t') (hnew : ∀ a : Nat, (t a).1 = 0 → (t' a).1 ≠ 0 → ∃ e : va_E, va_at D vwCl (a, e) H ∧ tk_O cy ld t' (t' a).1 (t' a).2.1 (t' a).2.2 e) : tk_G D cy ld t' [] H := by sorry
/-- all typed cells are old -/
theorem tk_G.old {D : va_G} {cy : Nat → ClassId} {ld : Nat → Nat} {t : tk_T} {H0 H : Heap} {locs : List Loc} (hG : tk_G D cy ld t [] H0) (hS : va_S (fun q => H0.size ≤ q) H0 H locs) : tk_G D cy ld t [] H := by sorry
theorem tk_G.lt {D : va_G} {cy : Nat → ClassId} {ld : Nat → Nat} {t : tk_T} {H : Heap} {a : Nat} (hG : tk_G D cy ld t [] H) (ha : (t a).1 ≠ 0) : a < H.size := by sorry
theorem tk_Z.grow {ld : Nat → Nat} {t t' : tk_T} {s : State} (h : tk_Z ld t s) (hn : ∀ a : Nat, a < s.heap.size → (t' a).1 ≠ 0 → (t a).1 ≠ 0) : tk_Z ld t' s := by sorry
/-- the seven cells of a new Script take their kinds -/
theorem tk_born {D : va_G} {cy : Nat → ClassId} {ld : Nat → Nat} {t : tk_T} {H0 H : Heap} {locs : List Loc} {q N R : Nat} {x : Nat → Nat} {f : Nat → Nat → Int32} {vN vR vK vL : Int32} (hF : tk_okF) (hG : tk_G D cy ld t [] H0) (hS : va_S (fun a => H0.size ≤ a) H0 H locs)
    (hP : va_P D vwCl [(q, .inr (7, [.ref (x 0), .ref (x 1), .ref (x 2), .ref (x 3), .ref (x 4), .ref (x 5), .int vN, .int vR, .int vK, .int vL])), (x 0, .inl (cy 0, N, .inl (f 0))), (x 1, .inl (cy 0, N, .inl (f 1))), (x 2, .inl (cy 0, R, .inl (f 2))), (x 3, .inl (cy 0, R, .inl (f 3))), (x 4, .inl (cy 0, R, .inl (f 4))), (x 5, .inl (cy 0, 3 * R, .inl (f 5)))] H)
    (hD : va_D (fun a => H0.size ≤ a) [(q, .inr (7, [.ref (x 0), .ref (x 1), .ref (x 2), .ref (x 3), .ref (x 4), .ref (x 5), .int vN, .int vR, .int vK, .int vL])), (x 0, .inl (cy 0, N, .inl (f 0))), (x 1, .inl (cy 0, N, .inl (f 1))), (x 2, .inl (cy 0, R, .inl (f 2))), (x 3, .inl (cy 0, R, .inl (f 3))), (x 4, .inl (cy 0, R, .inl (f 4))), (x 5, .inl (cy 0, 3 * R, .inl (f 5)))])
    (hN : N ≤ 512) (hR : R ≤ 12) (h1 : 0 ≤ vN.toInt ∧ vN.toInt ≤ N) (h2 : 0 ≤ vR.toInt ∧ vR.toInt ≤ R) (hL : 0 ≤ vL.toInt ∧ vL.toInt ≤ 1) (h3 : ∀ j : Nat, j < R → 0 ≤ (f 3 j).toInt ∧ (f 3 j).toInt ≤ 20) :
    ∃ t' : tk_T, tk_ext t t' ∧ tk_G D cy ld t' [] H ∧ t' q = (8, N, R) ∧ ∀ a : Nat, (t' a).1 ≠ 0 → (t a).1 ≠ 0 ∨ H0.size ≤ a := by
  have hG1 := hG.old hS
  have hq := hD.2 0 _ rfl
  have hx : ∀ k : Nat, k < 6 → H0.size ≤ x k := by
    intro k hk
    match k, hk with
    | 0, _ => exact hD.2 1 _ rfl
    | 1, _ => exact hD.2 2 _ rfl
    | 2, _ => exact hD.2 3 _ rfl
    | 3, _ => exact hD.2 4 _ rfl
    | 4, _ => exact hD.2 5 _ rfl
    | 5, _ => exact hD.2 6 _ rfl
    | k + 6, h => omega
  have n : ∀ (i j : Nat) (p r : Nat × va_E), i ≠ j → _ → _ → p.1 ≠ r.1 := fun i j p r hne hi hj e => hne (hD.1 i j p r hi hj e)
  have n01 : x 0 ≠ q := n 1 0 _ _ (by decide) rfl rfl
  have n11 : x 1 ≠ q := n 2 0 _ _ (by decide) rfl rfl
  have n21 : x 2 ≠ q := n 3 0 _ _ (by decide) rfl rfl
  have n31 : x 3 ≠ q := n 4 0 _ _ (by decide) rfl rfl
  have n41 : x 4 ≠ q := n 5 0 _ _ (by decide) rfl rfl
  have n51 : x 5 ≠ q := n 6 0 _ _ (by decide) rfl rfl
  have n10 : x 1 ≠ x 0 := n 2 1 _ _ (by decide) rfl rfl
  have n20 : x 2 ≠ x 0 := n 3 1 _ _ (by decide) rfl rfl
  have n30 : x 3 ≠ x 0 := n 4 1 _ _ (by decide) rfl rfl
  have n40 : x 4 ≠ x 0 := n 5 1 _ _ (by decide) rfl rfl
  have n50 : x 5 ≠ x 0 := n 6 1 _ _ (by decide) rfl rfl
  have n2a : x 2 ≠ x 1 := n 3 2 _ _ (by decide) rfl rfl
  have n3a : x 3 ≠ x 1 := n 4 2 _ _ (by decide) rfl rfl
  have n4a : x 4 ≠ x 1 := n 5 2 _ _ (by decide) rfl rfl
  have n5a : x 5 ≠ x 1 := n 6 2 _ _ (by decide) rfl rfl
  have n3b : x 3 ≠ x 2 := n 4 3 _ _ (by decide) rfl rfl
  have n4b : x 4 ≠ x 2 := n 5 3 _ _ (by decide) rfl rfl
  have n5b : x 5 ≠ x 2 := n 6 3 _ _ (by decide) rfl rfl
  have n4c : x 4 ≠ x 3 := n 5 4 _ _ (by decide) rfl rfl
  have n5c : x 5 ≠ x 3 := n 6 4 _ _ (by decide) rfl rfl
  have n5d : x 5 ≠ x 4 := n 6 5 _ _ (by decide) rfl rfl
  let t' : tk_T := fun a => if a = q then (8, N, R) else if a = x 0 then (20, N, 0) else if a = x 1 then (20, N, 0) else if a = x 2 then (20, R, 0) else if a = x 3 then (23, R, 0) else if a = x 4 then (20, R, 0) else if a = x 5 then (20, 3 * R, 0) else t a
  have eq : t' q = (8, N, R) := if_pos rfl
  have e0 : t' (x 0) = (20, N, 0) := by simp [t', n01]
  have e1 : t' (x 1) = (20, N, 0) := by simp [t', n11, n10]
  have e2 : t' (x 2) = (20, R, 0) := by simp [t', n21, n20, n2a]
  have e3 : t' (x 3) = (23, R, 0) := by simp [t', n31, n30, n3a, n3b]
  have e4 : t' (x 4) = (20, R, 0) := by simp [t', n41, n40, n4a, n4b, n4c]
  have e5 : t' (x 5) = (20, 3 * R, 0) := by simp [t', n51, n50, n5a, n5b, n5c, n5d]
  have eo : ∀ a : Nat, a < H0.size → t' a = t a := by
    intro a ha
    have g0 := hx 0 (by decide)
    have g1 := hx 1 (by decide)
    have g2 := hx 2 (by decide)
    have g3 := hx 3 (by decide)
    have g4 := hx 4 (by decide)
    have g5 := hx 5 (by decide)
    have gq : H0.size ≤ q := hq
    simp only [t']
    rw [if_neg (by omega), if_neg (by omega), if_neg (by omega), if_neg (by omega), if_neg (by omega), if_neg (by omega), if_neg (by omega)]
  have hext : tk_ext t t' := fun a ha => eo a (hG.lt ha)
  refine ⟨t', hext, hG1.grow hF hext (fun a ha ha' => ?_), eq, fun a ha => ?_⟩
  · have arr : ∀ (k a n r : Nat) (g : Nat → Int32), t' a = (k, n, r) → 20 ≤ k → tk_K k = 0 → va_at D vwCl (a, .inl (cy 0, n, .inl g)) H → (∀ j : Nat, j < n → tk_E k r j (g j).toInt) → ∃ e : va_E, va_at D vwCl (a, e) H ∧ tk_O cy ld t' (t' a).1 (t' a).2.1 (t' a).2.2 e := by
      intro k a n r g h hk hK hat hE
      refine ⟨_, hat, ?_⟩
      rw [h]
      show tk_O cy ld t' k n r _
      unfold tk_O
      rw [if_neg (Nat.not_lt.mpr hk)]
      unfold tk_A
      rw [hK]
      exact ⟨g, rfl, hE⟩
    by_cases c0 : a = q
    · subst c0
      refine ⟨_, hP 0 _ rfl, ?_⟩
      rw [eq]
      show tk_O cy ld t' 8 N R _
      unfold tk_O
      rw [if_pos (by decide)]
      refine ⟨_, rfl, rfl, fun j sp hj => ?_, ⟨hN, hR⟩⟩
      match j, hj with
      | 0, hj => cases hj; exact ⟨_, rfl, _, rfl, e0⟩
      | 1, hj => cases hj; exact ⟨_, rfl, _, rfl, e1⟩
      | 2, hj => cases hj; exact ⟨_, rfl, _, rfl, e2.trans (by rw [show ((1 : Int).toNat) * R = R from Nat.one_mul R]; rfl)⟩
      | 3, hj => cases hj; exact ⟨_, rfl, _, rfl, e3.trans (by rw [show ((1 : Int).toNat) * R = R from Nat.one_mul R]; rfl)⟩
      | 4, hj => cases hj; exact ⟨_, rfl, _, rfl, e4.trans (by rw [show ((1 : Int).toNat) * R = R from Nat.one_mul R]; rfl)⟩
      | 5, hj => cases hj; exact ⟨_, rfl, _, rfl, e5⟩
      | 6, hj => cases hj; exact ⟨_, rfl, _, rfl, h1⟩
      | 7, hj => cases hj; exact ⟨_, rfl, _, rfl, h2⟩
      | 8, hj => cases hj; exact ⟨_, rfl, _, rfl, (tk_rng _).1, (tk_rng _).2⟩
      | 9, hj => cases hj; exact ⟨_, rfl, _, rfl, hL⟩
      | j + 10, hj => simp [tk_F] at hj
    by_cases c1 : a = x 0
    · subst c1; exact arr 20 _ _ _ _ e0 (by decide) rfl (hP 1 _ rfl) (fun _ _ => trivial)
    by_cases c2 : a = x 1
    · subst c2; exact arr 20 _ _ _ _ e1 (by decide) rfl (hP 2 _ rfl) (fun _ _ => trivial)
    by_cases c3 : a = x 2
    · subst c3; exact arr 20 _ _ _ _ e2 (by decide) rfl (hP 3 _ rfl) (fun _ _ => trivial)
    by_cases c4 : a = x 3
    · subst c4; exact arr 23 _ _ _ _ e3 (by decide) rfl (hP 4 _ rfl) (fun j hj => h3 j hj)
    by_cases c5 : a = x 4
    · subst c5; exact arr 20 _ _ _ _ e4 (by decide) rfl (hP 5 _ rfl) (fun _ _ => trivial)
    by_cases c6 : a = x 5
    · subst c6; exact arr 20 _ _ _ _ e5 (by decide) rfl (hP 6 _ rfl) (fun _ _ => trivial)
    exfalso
    apply ha'
    simp only [t']
    rw [if_neg c0, if_neg c1, if_neg c2, if_neg c3, if_neg c4, if_neg c5, if_neg c6]
    exact ha
  · by_cases h : a < H0.size
    · rw [eo a h] at ha
      exact Or.inl ha
    · exact Or.inr (Nat.not_lt.mp h)
theorem tk_copy0 {p : Program} {l : Launch} {e : Env} {R : Room} {s : State} {m : MethodId} {args : Array Value} {below : List Frame} {meth : Method} {c : Code} {H : Heap} {locs : List Loc} {cells slots : Nat} {Q : State → Prop} {pc : Nat} {ls : Array Slot} {rest : List Value} {A : Nat → Prop} {H0 : Heap} {index : Nat} {D : va_G} {cy : Nat → ClassId} {ld : Nat → Nat} {own : String} {cc : ByteArray} {a : Nat} (hexec : p.tables.exec = Jvm.exec) (hb : c.code = cc) (hml : c.maxLocals = ls.size) (hown : s.vm.findClass own = some m.cls) (hlink : (Cond.methodLink own index arraycopyName).before args s = true) (hnat : (Cond.native arraycopyName).before args s = true) (hstat : (Cond.static arraycopyName).before args s = true) (hini : (Cond.initialized "java/lang/System").before args s = true)
    (hK : kk_K D cy ld s) (hS : va_S A H0 H locs) {a0 n0 n1 : Nat} {f g : Nat → Int32} (hc0 : va_at D vwCl (a0, .inl (cy 0, n0, .inl f)) H) (hc1 : va_at D vwCl (a, .inl (cy 0, n1, .inl g)) H)
    {sp dp nc : Int32} {SP DP NC : Int} (hsp : sp.toInt = SP) (hdp : dp.toInt = DP) (hnc : nc.toInt = NC) (h1 : 0 ≤ SP) (h2 : 0 ≤ DP) (h3 : 0 ≤ NC) (h4 : SP + NC ≤ (n0 : Int)) (h5 : DP + NC ≤ (n1 : Int)) (hA : A a)
    (hframes : 1 ≤ R.frames) (hlocals : (rest.map fun v => v.category).sum + (nativeFrameWords "java/lang/System" "arraycopy" 5 + 11) ≤ R.locals) (hdg : decode cc pc = .ok (.invokestatic index, 3))
    (kk : ∀ (H1 : Heap) (locs1 : List Loc), va_at D vwCl (a, .inl (cy 0, n1, .inl (va_cpy f g sp.toNatClampNeg dp.toNatClampNeg nc.toNatClampNeg))) H1 → va_S A H0 H1 locs1 → (∀ q : Nat, q ≠ a → H1[q]? = H[q]?) → W p l e R s m args below meth c H1 locs1 cells slots Q (F0 m (pc + 3) ls rest)) : W p l e R s m args below meth c H locs cells slots Q (F0 m pc ls (.int nc :: .int dp :: .ref a :: .int sp :: .ref a0 :: rest)) := by
  change H[a0]? = some (vp_cell (cy 0) (n0, .inl f)) at hc0
  change H[a]? = some (vp_cell (cy 0) (n1, .inl g)) at hc1
  have z1 := tk_nat hsp h1
  have z2 := tk_nat hdp h2
  have z3 := tk_nat hnc h3
  have g1 : ¬ sp < 0 := fun h => by have := Int32.lt_iff_toInt_lt.mp h; rw [hsp] at this; exact absurd this (by show ¬ SP < 0; omega)
  have g2 : ¬ dp < 0 := fun h => by have := Int32.lt_iff_toInt_lt.mp h; rw [hdp] at this; exact absurd this (by show ¬ DP < 0; omega)
  have g3 : ¬ nc < 0 := fun h => by have := Int32.lt_iff_toInt_lt.mp h; rw [hnc] at this; exact absurd this (by show ¬ NC < 0; omega)
  intro T hT Xs
  obtain ⟨-, kq0, hq0, cm0, hkk0⟩ := (hK.1.2 0 _ rfl).1 n0 (fun j => .int (f j))
  obtain ⟨-, kq1, hq1, cm1, hkk1⟩ := (hK.1.2 0 _ rfl).1 n1 (fun j => .int (g j))
  obtain ⟨vm', X', step⟩ := Xs.arraycopy hexec hown hlink hnat hstat hini (src := a0) (dst := a) (cs := vp_cell (cy 0) (n0, .inl f)) (cd := vp_cell (cy 0) (n1, .inl g)) (srcPos := sp) (destPos := dp) (n := nc) (by rw [hT]; exact hc0) (by rw [hT]; exact hc1)
    (fun _ h => by cases h) (fun _ h => by cases h) (fun h => by cases h) (fun h => by cases h) hq0 hq1 hkk0 hkk1 (by simp [refKind]) g1 g2 g3
    (by rw [hsp, hnc]; show ¬ _ > ((arrV (cy 0) n0 (fun j => .int (f j))).slots.size : Int); rw [arrV_size]; omega)
    (by rw [hdp, hnc]; show ¬ _ > ((arrV (cy 0) n1 (fun j => .int (g j))).slots.size : Int); rw [arrV_size]; omega)
    (fun vm₁ _ i hi => by
      have e : (vp_cell (cy 0) (n0, .inl f)).slots.getD (sp.toNatClampNeg + i) .null = .int (f (sp.toNatClampNeg + i)) := by
        show (arrV (cy 0) n0 (fun j => .int (f j))).slots.getD _ _ = _
        rw [Array.getD_eq_getD_getElem?, arrV_read _ _ (by omega)]
        rfl
      refine ⟨?_, ?_⟩
      · rw [e]
        rfl
      · rw [e]
        exact trivial)
    (g := F0 m pc ls (.int nc :: .int dp :: .ref a :: .int sp :: .ref a0 :: rest)) rfl (by rw [hml]) (rest := rest) rfl (by rw [hb]; exact hdg) hframes (by show 2 * 0 + _ + _ ≤ _; omega)
  have e1 : copied (vp_cell (cy 0) (n0, .inl f)) (vp_cell (cy 0) (n1, .inl g)) sp dp nc = vp_cell (cy 0) (n1, .inl (va_cpy f g sp.toNatClampNeg dp.toNatClampNeg nc.toNatClampNeg)) := va_copied (fun z => .int z) (cy 0) (cy 0) f g (by omega)
  rw [e1] at X' step
  have hl : a < H.size := (Array.getElem?_eq_some_iff.mp hc1).1
  have hheap : ((T.setVm vm').setCell a (vp_cell (cy 0) (n1, .inl (va_cpy f g sp.toNatClampNeg dp.toNatClampNeg nc.toNatClampNeg)))).heap = H.setIfInBounds a (vp_cell (cy 0) (n1, .inl (va_cpy f g sp.toNatClampNeg dp.toNatClampNeg nc.toNatClampNeg))) := by rw [← hT]; rfl
  have oq : ∀ q : Nat, q ≠ a → (H.setIfInBounds a (vp_cell (cy 0) (n1, .inl (va_cpy f g sp.toNatClampNeg dp.toNatClampNeg nc.toNatClampNeg))))[q]? = H[q]? := fun q hq => by simp [Array.getElem?_setIfInBounds, Ne.symm hq]
  have hG1 : va_at D vwCl (a, .inl (cy 0, n1, .inl (va_cpy f g sp.toNatClampNeg dp.toNatClampNeg nc.toNatClampNeg))) (H.setIfInBounds a (vp_cell (cy 0) (n1, .inl (va_cpy f g sp.toNatClampNeg dp.toNatClampNeg nc.toNatClampNeg)))) := by
    show (H.setIfInBounds a _)[a]? = some _
    simp [Array.getElem?_setIfInBounds, hl]
  obtain ⟨t9, a9, b9⟩ := kk _ _ hG1 ⟨by simp; exact hS.1, fun q g1 g2 => by
      rw [oq q (fun e => g2 (by rw [e]; exact hA))]
      exact hS.2.1 q g1 g2, fun q hq => by
      rcases List.mem_append.mp hq with h | h
      · exact hS.2.2 q h
      · obtain ⟨z, -, hz⟩ := List.mem_map.mp h
        rw [← hz]
        exact hA⟩ oq _ hheap X'
  exact ⟨t9, step t9 a9, b9⟩
def tps (D : va_G) (cy : Nat → ClassId) (ld : Nat → Nat) (t : tk_T) (av : List Value) (sz : Nat) : Array Value → State → Prop := va_Pc av (fun U => tk_G D cy ld t [] U.heap ∧ kk_K D cy ld U ∧ U.heap.size = sz ∧ tk_Z ld t U)
def tqs (D : va_G) (cy : Nat → ClassId) (ld : Nat → Nat) (t : tk_T) (sz : Nat) : Array Value → State → Outcome → State → Prop := va_Qq (S := Nat × tk_T) (fun r u => r = some u.1) (fun u st => tk_ext t u.2 ∧ tk_G D cy ld u.2 [] st.heap ∧ (∃ n r : Nat, u.2 u.1 = (8, n, r)) ∧ ∀ a : Nat, (u.2 a).1 ≠ 0 → (t a).1 ≠ 0 ∨ sz ≤ a) (fun q => sz ≤ q)
theorem tps_blind {D : va_G} {cy : Nat → ClassId} {ld : Nat → Nat} {t : tk_T} {av : List Value} {sz : Nat} : FrameBlind (tps D cy ld t av sz) := fun a U g mk q => by
  obtain ⟨q0, q1, q2, q3, q4⟩ := q
  exact ⟨q0, q1, kk_call g mk a q2, q3, ⟨vk_S.moved (u := U) (U := U.calling g mk a) (Vm.Alike.refl U.vm) q4.1, va_Z.moved (u := U) (U := U.calling g mk a) (Vm.Alike.refl U.vm) q4.2.1, q4.2.2.elim (fun h => Or.inl (va_Z.moved (u := U) (U := U.calling g mk a) (Vm.Alike.refl U.vm) h)) (fun h => h.elim (fun x h => Or.inr ⟨x, va_Z.moved (u := U) (U := U.calling g mk a) (Vm.Alike.refl U.vm) h⟩))⟩⟩
theorem tk_mets {l : Launch} {D : va_G} {cy : Nat → ClassId} {ld : Nat → Nat} {y : MethodName} {cc : ByteArray} {maxL mc ms sz : Nat} {ret : Option FieldType} {rm : Room} {av : List Value} {t : tk_T} (QC : Nat → Array Value → State → Outcome → State → Prop) (hy : plainName y.cls = true) (hlen : (lg_sl av).length ≤ maxL)
    (body : ∀ (p : Program) (e : Env) (s : State) (m : MethodId) (args : Array Value) (below : List Frame) (meth : Method) (c : Code), p.tables.exec = Jvm.exec → c.code = cc → meth.sig.returnType = ret → c.maxLocals = maxL → (∀ w ∈ wl y cc maxL ret, w.before args s = true) → (∀ w ∈ wsA, w.before args s = true) → s.vm.findClass y.cls = some m.cls → meth.locks = false → kk_K D cy ld s → tk_G D cy ld t [] s.heap → tk_Z ld t s → ∀ ls : Array Slot, lv_has ls maxL (lv_args 0 av) →
      W p l e rm s m args below meth c s.heap [] 0 0 (MQ below (QC s.heap.size) args s mc ms (fun q => s.heap.size ≤ q)) (F0 m 0 ls [])) : Met l y (wl y cc maxL ret) rm (tps D cy ld t av sz) (QC sz) mc ms (fun q => sz ≤ q) := by
  refine Met.ofW (cc := cc) (maxL := maxL) (ret := ret) hy rfl ?_
  intro p e s m args below meth c s₁ B hml hv
  obtain ⟨rfl, hG, hK, hsz, hZ⟩ := hv
  subst hsz
  have hts := atoms_spec (ws := wl y cc maxL ret) B.pre
  have hl := lv_entry av (n := maxL) hlen
  rw [lg_entry_eq]
  exact body p e s m _ below meth c B.exec B.bytes B.returns hml hts (fun w hw => hts w (List.mem_cons_of_mem _ hw)) (findClass_of_methodNamed B.named) B.notSynchronized hK hG hZ _ hl
theorem tk_Z.atA {ld : Nat → Nat} {t : tk_T} {s U : State} {A : Nat → Prop} {H : Heap} {locs : List Loc} (h : tk_Z ld t s) (hAZ : ∀ q : Nat, q < s.heap.size → A q → (t q).1 ≠ 0) (hS : va_S A s.heap H locs) (hU : U.heap = H) (hW : s.vm.Alike U.vm) : tk_Z ld t U := by sorry
theorem tk_ViA {p : Program} {l : Launch} {e : Env} {R : Room} {s : State} {m : MethodId} {args : Array Value} {below : List Frame} {meth : Method} {c : Code} {H : Heap} {locs : List Loc} {cells slots : Nat} {Q : State → Prop} {pc : Nat} {ls : Array Slot} {rest st : List Value} {A : Nat → Prop} {mc ms nL maxL n index : Nat} {D : va_G} {cy : Nat → ClassId} {ld : Nat → Nat} {own C : String} {Ts wsy : List Cond} {cc bytes : ByteArray} {y : MethodName} {ret : Option FieldType} {rm : Room} {As : List Value} {b ci nn rr : Nat} {t : tk_T} {X : List Nat} {T : u_T} {N : Nat} {L : List (Nat × Nat × Nat)} {post : Int32 → Heap → Prop} (S : CallFix p m c cc nL s args Ts own) (hK : kk_K D cy ld s) (hG : tk_G D cy ld t X H) (hZ : tk_Z ld t s) (hAZ : ∀ q : Nat, q < s.heap.size → A q → (t q).1 ≠ 0) (hS : va_S A s.heap H locs) {B : Heap → Prop} (hM : Met l y wsy rm (tp D cy ld t X (.ref b :: As) B) (ti D cy ld t X post (tk_w t L)) mc ms (tk_w t L)) (hB : B H) (cw : CallW R s args own C index y bytes maxL ret wsy rm mc ms n) (hb0 : t b = (ci + 1, nn, rr)) (hci : ci + 1 < 20) (hXb : b ∉ X) (hcl : vwCl[ci]? = some (C, T, N)) (hsub : ∀ q, tk_w t L q → A q) (hn : As.length = n) (hsize : ls.size = nL) (hst : st = As.reverse ++ .ref b :: rest) (hW : (rest.map fun v => v.category).sum ≤ 8) (hdg : decode cc pc = .ok (.invokevirtual index, 3)) (hf : cells + mc ≤ R.cells ∧ slots + ms ≤ R.slots)
    (kk : ∀ (r : Int32) (H1 : Heap) (locs1 : List Loc), post r H1 → tk_G D cy ld t X H1 → va_S A s.heap H1 locs1 → H.size ≤ H1.size → (∀ q : Nat, q < H.size → ¬ tk_w t L q → H1[q]? = H[q]?) → W p l e R s m args below meth c H1 locs1 (cells + mc) (slots + ms) Q (F0 m (pc + 3) ls (.int r :: rest))) : W p l e R s m args below meth c H locs cells slots Q (F0 m pc ls st) := by
  subst hst
  obtain ⟨fs0, hat0, -⟩ := hG.obj hb0 hci hXb
  refine va_calli (va_runV (As := As) (rest := rest) S hM cw ⟨tp_blind, va_recv hK.1 (tk_one hat0) hcl (q0 := 0) rfl, fun U hU hW2 => ⟨rfl, by rw [hU]; exact hG, kk_warm hW2 hK, by rw [hU]; exact hB, tk_Z.atA hZ hAZ hS hU hW2.alike⟩⟩ rfl hn hsize rfl (lv_room hW) hdg hf) hS (fun q _ h => hsub q h) hsub (fun r u t9 H1 locs1 ht hvm hw hBB hz1 hk1 hS1 => ?_)
  obtain ⟨hG1, hp1⟩ := hBB
  subst hw
  rw [ht] at hG1 hp1
  exact kk r H1 locs1 hp1 hG1 hS1 hz1 hk1
theorem tk_w.grow {t t' : tk_T} {L : List (Nat × Nat × Nat)} {n0 sz q : Nat} (g1 : tk_ext t t') (g4 : ∀ a : Nat, (t' a).1 ≠ 0 → (t a).1 ≠ 0 ∨ sz ≤ a) (hz : n0 ≤ sz) (h : tk_w t' L q) : tk_w t L q ∨ n0 ≤ q := by sorry
theorem tk_Vg {p : Program} {l : Launch} {e : Env} {R : Room} {s : State} {m : MethodId} {args : Array Value} {below : List Frame} {meth : Method} {c : Code} {H : Heap} {locs : List Loc} {cells slots : Nat} {Q : State → Prop} {pc : Nat} {ls : Array Slot} {rest st : List Value} {A : Nat → Prop} {mc ms nL maxL index : Nat} {D : va_G} {cy : Nat → ClassId} {ld : Nat → Nat} {own C : String} {Ts wsy : List Cond} {cc bytes : ByteArray} {y : MethodName} {ret : Option FieldType} {rm : Room} {b ci nn rr : Nat} {t : tk_T} {T : u_T} {N : Nat} (S : CallFix p m c cc nL s args Ts own) (hK : kk_K D cy ld s) (hG : tk_G D cy ld t [] H) (hZ : tk_Z ld t s) (hAZ : ∀ q : Nat, q < s.heap.size → A q → (t q).1 ≠ 0) (hS : va_S A s.heap H locs) (hM : Met l y wsy rm (tps D cy ld t [.ref b] H.size) (tqs D cy ld t H.size) mc ms (fun q => H.size ≤ q)) (cw : CallW R s args own C index y bytes maxL ret wsy rm mc ms 0) (hb0 : t b = (ci + 1, nn, rr)) (hci : ci + 1 < 20) (hcl : vwCl[ci]? = some (C, T, N)) (hsub : ∀ q : Nat, H.size ≤ q → A q) (hsize : ls.size = nL) (hst : st = .ref b :: rest) (hW : (rest.map fun v => v.category).sum ≤ 8) (hdg : decode cc pc = .ok (.invokevirtual index, 3)) (hf : cells + mc ≤ R.cells ∧ slots + ms ≤ R.slots)
    (kk : ∀ (q : Nat) (t' : tk_T) (H1 : Heap) (locs1 : List Loc), tk_ext t t' → tk_G D cy ld t' [] H1 → (∃ n r : Nat, t' q = (8, n, r)) → (∀ a : Nat, (t' a).1 ≠ 0 → (t a).1 ≠ 0 ∨ H.size ≤ a) → va_S A s.heap H1 locs1 → W p l e R s m args below meth c H1 locs1 (cells + mc) (slots + ms) Q (F0 m (pc + 3) ls (.ref q :: rest))) : W p l e R s m args below meth c H locs cells slots Q (F0 m pc ls st) := by
  subst hst
  obtain ⟨fs0, hat0, -⟩ := hG.obj hb0 hci tk_no
  refine va_callq (va_runV (As := []) (rest := rest) S hM cw ⟨tps_blind, va_recv hK.1 (tk_one hat0) hcl (q0 := 0) rfl, fun U hU hW2 => ⟨rfl, by rw [hU]; exact hG, kk_warm hW2 hK, by rw [hU], tk_Z.atA hZ hAZ hS hU hW2.alike⟩⟩ rfl rfl hsize rfl (lv_room hW) hdg hf) hS (fun q _ h => hsub q h) hsub (fun r u t9 H1 locs1 ht hvm hw hBB hz1 hk1 hS1 => ?_)
  obtain ⟨g1, g2, g3, g4⟩ := hBB
  subst hw
  rw [ht] at g2
  exact kk u.1 u.2 H1 locs1 g1 g2 g3 g4 hS1
def tql (D : va_G) (cy : Nat → ClassId) (ld : Nat → Nat) (t : tk_T) (A : Nat → Prop) (sz : Nat) : Array Value → State → Outcome → State → Prop := va_Qi (S := Int32 × tk_T) (fun r u => r = u.1) (fun u st => tk_ext t u.2 ∧ tk_G D cy ld u.2 [] st.heap ∧ ∀ a : Nat, (u.2 a).1 ≠ 0 → (t a).1 ≠ 0 ∨ sz ≤ a) A
theorem tk_iretL {p : Program} {l : Launch} {e : Env} {R : Room} {s : State} {m : MethodId} {args : Array Value} {below : List Frame} {meth : Method} {c : Code} {H : Heap} {locs : List Loc} {cells slots pc : Nat} {ls : Array Slot} {A : Nat → Prop} {D : va_G} {cy : Nat → ClassId} {ld : Nat → Nat} {cc : ByteArray} {t t' : tk_T} {v : Int32} (hx : p.tables.exec = Jvm.exec) (hb : c.code = cc) (hr : meth.sig.returnType = some .int) (hlocks : meth.locks = false) (g1 : tk_ext t t') (hG : tk_G D cy ld t' [] H) (g4 : ∀ a : Nat, (t' a).1 ≠ 0 → (t a).1 ≠ 0 ∨ s.heap.size ≤ a) (hS : va_S A s.heap H locs) (hdg : decode cc pc = .ok (.ireturn, 1)) :
    W p l e R s m args below meth c H locs cells slots (MQ below (tql D cy ld t A s.heap.size) args s cells slots A) (F0 m pc ls [.int v]) :=
  W.zret hx hb hr rfl (fun t9 ht _ => ⟨⟨v, (v, t'), rfl, rfl, by show tk_ext t t' ∧ tk_G D cy ld t' [] t9.heap ∧ ∀ a : Nat, (t' a).1 ≠ 0 → (t a).1 ≠ 0 ∨ s.heap.size ≤ a; rw [ht]; exact ⟨g1, hG, g4⟩⟩, hS.F ht⟩) hS.2.2 hdg hlocks
theorem tk_metl {l : Launch} {D : va_G} {cy : Nat → ClassId} {ld : Nat → Nat} {y : MethodName} {cc : ByteArray} {maxL mc ms sz : Nat} {ret : Option FieldType} {rm : Room} {av : List Value} {t : tk_T} {L : List (Nat × Nat × Nat)} (hy : plainName y.cls = true) (hlen : (lg_sl av).length ≤ maxL)
    (body : ∀ (p : Program) (e : Env) (s : State) (m : MethodId) (args : Array Value) (below : List Frame) (meth : Method) (c : Code), p.tables.exec = Jvm.exec → c.code = cc → meth.sig.returnType = ret → c.maxLocals = maxL → (∀ w ∈ wl y cc maxL ret, w.before args s = true) → (∀ w ∈ wsA, w.before args s = true) → s.vm.findClass y.cls = some m.cls → meth.locks = false → kk_K D cy ld s → ∀ (H : Heap) (locs : List Loc), H.size = s.heap.size → tk_G D cy ld t [] H → va_S (fun q => tk_w t L q ∨ s.heap.size ≤ q) s.heap H locs → tk_Z ld t s → ∀ ls : Array Slot, lv_has ls maxL (lv_args 0 av) →
      W p l e rm s m args below meth c H locs 0 0 (MQ below (tql D cy ld t (fun q => tk_w t L q ∨ s.heap.size ≤ q) s.heap.size) args s mc ms (fun q => tk_w t L q ∨ s.heap.size ≤ q)) (F0 m 0 ls [])) : Met l y (wl y cc maxL ret) rm (tps D cy ld t av sz) (tql D cy ld t (fun q => tk_w t L q ∨ sz ≤ q) sz) mc ms (fun q => tk_w t L q ∨ sz ≤ q) := by
  refine Met.ofW (cc := cc) (maxL := maxL) (ret := ret) hy rfl ?_
  intro p e s m args below meth c s₁ B hml hv
  obtain ⟨rfl, hG, hK, hsz, hZ⟩ := hv
  subst hsz
  have hts := atoms_spec (ws := wl y cc maxL ret) B.pre
  have hl := lv_entry av (n := maxL) hlen
  rw [lg_entry_eq]
  exact body p e s m _ below meth c B.exec B.bytes B.returns hml hts (fun w hw => hts w (List.mem_cons_of_mem _ hw)) (findClass_of_methodNamed B.named) B.notSynchronized hK s.heap [] rfl hG va_S.rf hZ _ hl

theorem dfX7 : ∀ j, j < 10 → defaultValue (tyX7 j) = vp_V [.null, .null, .null, .null, .null, .null, .int 0, .int 0, .int 0, .int 0] j := sorry
theorem dX7_init_0 : decode cX7_init 0 = .ok (.aload_n 0, 1) := sorry
theorem dX7_init_1 : decode cX7_init 1 = .ok (.invokespecial 3, 3) := sorry
theorem dX7_init_4 : decode cX7_init 4 = .ok (.aload_n 0, 1) := sorry
theorem dX7_init_5 : decode cX7_init 5 = .ok (.iload_n 1, 1) := sorry
theorem dX7_init_6 : decode cX7_init 6 = .ok (.newarray .int, 2) := sorry
theorem dX7_init_8 : decode cX7_init 8 = .ok (.putfield 9, 3) := sorry
theorem dX7_init_11 : decode cX7_init 11 = .ok (.aload_n 0, 1) := sorry
theorem dX7_init_12 : decode cX7_init 12 = .ok (.iload_n 1, 1) := sorry
theorem dX7_init_13 : decode cX7_init 13 = .ok (.newarray .int, 2) := sorry
theorem dX7_init_15 : decode cX7_init 15 = .ok (.putfield 15, 3) := sorry
theorem dX7_init_18 : decode cX7_init 18 = .ok (.aload_n 0, 1) := sorry
theorem dX7_init_19 : decode cX7_init 19 = .ok (.iload_n 2, 1) := sorry
theorem dX7_init_20 : decode cX7_init 20 = .ok (.newarray .int, 2) := sorry
theorem dX7_init_22 : decode cX7_init 22 = .ok (.putfield 18, 3) := sorry
theorem dX7_init_25 : decode cX7_init 25 = .ok (.aload_n 0, 1) := sorry
theorem dX7_init_26 : decode cX7_init 26 = .ok (.iload_n 2, 1) := sorry
theorem dX7_init_27 : decode cX7_init 27 = .ok (.newarray .int, 2) := sorry
theorem dX7_init_29 : decode cX7_init 29 = .ok (.putfield 21, 3) := sorry
theorem dX7_init_32 : decode cX7_init 32 = .ok (.aload_n 0, 1) := sorry
theorem dX7_init_33 : decode cX7_init 33 = .ok (.iload_n 2, 1) := sorry
theorem dX7_init_34 : decode cX7_init 34 = .ok (.newarray .int, 2) := sorry
theorem dX7_init_36 : decode cX7_init 36 = .ok (.putfield 24, 3) := sorry
theorem dX7_init_39 : decode cX7_init 39 = .ok (.aload_n 0, 1) := sorry
theorem dX7_init_40 : decode cX7_init 40 = .ok (.iload_n 2, 1) := sorry
theorem dX7_init_41 : decode cX7_init 41 = .ok (.iconst 3, 1) := sorry
theorem dX7_init_42 : decode cX7_init 42 = .ok (.imul, 1) := sorry
theorem dX7_init_43 : decode cX7_init 43 = .ok (.newarray .int, 2) := sorry
theorem dX7_init_45 : decode cX7_init 45 = .ok (.putfield 27, 3) := sorry
theorem dX7_init_48 : decode cX7_init 48 = .ok (.return_, 1) := sorry
set_option maxHeartbeats 4000000 in
set_option maxRecDepth 100000 in
theorem k_X7_init (l : Launch) (D : va_G) (cy : Nat → ClassId) (ld : Nat → Nat) (sz : Nat) (a0 : Nat) (p1 p2 : Int32) (N R : Nat) (h1 : p1.toInt = N) (h2 : p2.toInt = R) (hN : N ≤ 512) (hR : R ≤ 12) : Met l yX7_init (wl yX7_init cX7_init 3 none) ({ frames := 3, cells := 6, slots := 1096, locals := 140 }) (pp D cy ld [.ref a0, .int p1, .int p2] sz [(a0, .inr (7, [.null, .null, .null, .null, .null, .null, .int 0, .int 0, .int 0, .int 0]))]) (qv D (fun x : Nat → Nat => [(a0, .inr (7, [.ref (x 0), .ref (x 1), .ref (x 2), .ref (x 3), .ref (x 4), .ref (x 5), .int 0, .int 0, .int 0, .int 0])), (x 0, .inl (cy 0, N, .inl (fun _ => 0))), (x 1, .inl (cy 0, N, .inl (fun _ => 0))), (x 2, .inl (cy 0, R, .inl (fun _ => 0))), (x 3, .inl (cy 0, R, .inl (fun _ => 0))), (x 4, .inl (cy 0, R, .inl (fun _ => 0))), (x 5, .inl (cy 0, 3 * R, .inl (fun _ => 0)))]) (va_A [(a0, .inr (7, [.null, .null, .null, .null, .null, .null, .int 0, .int 0, .int 0, .int 0]))] sz)) 6 1096 (va_A [(a0, .inr (7, [.null, .null, .null, .null, .null, .null, .int 0, .int 0, .int 0, .int 0]))] sz) := by sorry
theorem hd7_init : yX7_init.cls ≠ "java/lang/invoke/MethodHandle" ∧ yX7_init.cls ≠ "java/lang/invoke/VarHandle" ∧ (parseMethodDescriptor yX7_init.desc).map (fun d => d.parameters.length) = some 2 := sorry
theorem dX7_cut_0 : decode cX7_cut 0 = .ok (.new 10, 3) := sorry
theorem dX7_cut_3 : decode cX7_cut 3 = .ok (.dup, 1) := sorry
theorem dX7_cut_4 : decode cX7_cut 4 = .ok (.aload_n 0, 1) := sorry
theorem dX7_cut_5 : decode cX7_cut 5 = .ok (.getfield 30, 3) := sorry
theorem dX7_cut_8 : decode cX7_cut 8 = .ok (.aload_n 0, 1) := sorry
theorem dX7_cut_9 : decode cX7_cut 9 = .ok (.getfield 34, 3) := sorry
theorem dX7_cut_12 : decode cX7_cut 12 = .ok (.invokespecial 44, 3) := sorry
theorem dX7_cut_15 : decode cX7_cut 15 = .ok (.astore_n 1, 1) := sorry
theorem dX7_cut_16 : decode cX7_cut 16 = .ok (.aload_n 0, 1) := sorry
theorem dX7_cut_17 : decode cX7_cut 17 = .ok (.getfield 9, 3) := sorry
theorem dX7_cut_20 : decode cX7_cut 20 = .ok (.iconst 0, 1) := sorry
theorem dX7_cut_21 : decode cX7_cut 21 = .ok (.aload_n 1, 1) := sorry
theorem dX7_cut_22 : decode cX7_cut 22 = .ok (.getfield 9, 3) := sorry
theorem dX7_cut_25 : decode cX7_cut 25 = .ok (.iconst 0, 1) := sorry
theorem dX7_cut_26 : decode cX7_cut 26 = .ok (.aload_n 0, 1) := sorry
theorem dX7_cut_27 : decode cX7_cut 27 = .ok (.getfield 30, 3) := sorry
theorem dX7_cut_30 : decode cX7_cut 30 = .ok (.invokestatic 47, 3) := sorry
theorem dX7_cut_33 : decode cX7_cut 33 = .ok (.aload_n 0, 1) := sorry
theorem dX7_cut_34 : decode cX7_cut 34 = .ok (.getfield 15, 3) := sorry
theorem dX7_cut_37 : decode cX7_cut 37 = .ok (.iconst 0, 1) := sorry
theorem dX7_cut_38 : decode cX7_cut 38 = .ok (.aload_n 1, 1) := sorry
theorem dX7_cut_39 : decode cX7_cut 39 = .ok (.getfield 15, 3) := sorry
theorem dX7_cut_42 : decode cX7_cut 42 = .ok (.iconst 0, 1) := sorry
theorem dX7_cut_43 : decode cX7_cut 43 = .ok (.aload_n 0, 1) := sorry
theorem dX7_cut_44 : decode cX7_cut 44 = .ok (.getfield 30, 3) := sorry
theorem dX7_cut_47 : decode cX7_cut 47 = .ok (.invokestatic 47, 3) := sorry
theorem dX7_cut_50 : decode cX7_cut 50 = .ok (.aload_n 0, 1) := sorry
theorem dX7_cut_51 : decode cX7_cut 51 = .ok (.getfield 18, 3) := sorry
theorem dX7_cut_54 : decode cX7_cut 54 = .ok (.iconst 0, 1) := sorry
theorem dX7_cut_55 : decode cX7_cut 55 = .ok (.aload_n 1, 1) := sorry
theorem dX7_cut_56 : decode cX7_cut 56 = .ok (.getfield 18, 3) := sorry
theorem dX7_cut_59 : decode cX7_cut 59 = .ok (.iconst 0, 1) := sorry
theorem dX7_cut_60 : decode cX7_cut 60 = .ok (.aload_n 0, 1) := sorry
theorem dX7_cut_61 : decode cX7_cut 61 = .ok (.getfield 34, 3) := sorry
theorem dX7_cut_64 : decode cX7_cut 64 = .ok (.invokestatic 47, 3) := sorry
theorem dX7_cut_67 : decode cX7_cut 67 = .ok (.aload_n 0, 1) := sorry
theorem dX7_cut_68 : decode cX7_cut 68 = .ok (.getfield 21, 3) := sorry
theorem dX7_cut_71 : decode cX7_cut 71 = .ok (.iconst 0, 1) := sorry
theorem dX7_cut_72 : decode cX7_cut 72 = .ok (.aload_n 1, 1) := sorry
theorem dX7_cut_73 : decode cX7_cut 73 = .ok (.getfield 21, 3) := sorry
theorem dX7_cut_76 : decode cX7_cut 76 = .ok (.iconst 0, 1) := sorry
theorem dX7_cut_77 : decode cX7_cut 77 = .ok (.aload_n 0, 1) := sorry
theorem dX7_cut_78 : decode cX7_cut 78 = .ok (.getfield 34, 3) := sorry
theorem dX7_cut_81 : decode cX7_cut 81 = .ok (.invokestatic 47, 3) := sorry
theorem dX7_cut_84 : decode cX7_cut 84 = .ok (.aload_n 0, 1) := sorry
theorem dX7_cut_85 : decode cX7_cut 85 = .ok (.getfield 24, 3) := sorry
theorem dX7_cut_88 : decode cX7_cut 88 = .ok (.iconst 0, 1) := sorry
theorem dX7_cut_89 : decode cX7_cut 89 = .ok (.aload_n 1, 1) := sorry
theorem dX7_cut_90 : decode cX7_cut 90 = .ok (.getfield 24, 3) := sorry
theorem dX7_cut_93 : decode cX7_cut 93 = .ok (.iconst 0, 1) := sorry
theorem dX7_cut_94 : decode cX7_cut 94 = .ok (.aload_n 0, 1) := sorry
theorem dX7_cut_95 : decode cX7_cut 95 = .ok (.getfield 34, 3) := sorry
theorem dX7_cut_98 : decode cX7_cut 98 = .ok (.invokestatic 47, 3) := sorry
theorem dX7_cut_101 : decode cX7_cut 101 = .ok (.aload_n 0, 1) := sorry
theorem dX7_cut_102 : decode cX7_cut 102 = .ok (.getfield 27, 3) := sorry
theorem dX7_cut_105 : decode cX7_cut 105 = .ok (.iconst 0, 1) := sorry
theorem dX7_cut_106 : decode cX7_cut 106 = .ok (.aload_n 1, 1) := sorry
theorem dX7_cut_107 : decode cX7_cut 107 = .ok (.getfield 27, 3) := sorry
theorem dX7_cut_110 : decode cX7_cut 110 = .ok (.iconst 0, 1) := sorry
theorem dX7_cut_111 : decode cX7_cut 111 = .ok (.aload_n 0, 1) := sorry
theorem dX7_cut_112 : decode cX7_cut 112 = .ok (.getfield 34, 3) := sorry
theorem dX7_cut_115 : decode cX7_cut 115 = .ok (.iconst 3, 1) := sorry
theorem dX7_cut_116 : decode cX7_cut 116 = .ok (.imul, 1) := sorry
theorem dX7_cut_117 : decode cX7_cut 117 = .ok (.invokestatic 47, 3) := sorry
theorem dX7_cut_120 : decode cX7_cut 120 = .ok (.aload_n 1, 1) := sorry
theorem dX7_cut_121 : decode cX7_cut 121 = .ok (.aload_n 0, 1) := sorry
theorem dX7_cut_122 : decode cX7_cut 122 = .ok (.getfield 30, 3) := sorry
theorem dX7_cut_125 : decode cX7_cut 125 = .ok (.putfield 30, 3) := sorry
theorem dX7_cut_128 : decode cX7_cut 128 = .ok (.aload_n 1, 1) := sorry
theorem dX7_cut_129 : decode cX7_cut 129 = .ok (.aload_n 0, 1) := sorry
theorem dX7_cut_130 : decode cX7_cut 130 = .ok (.getfield 34, 3) := sorry
theorem dX7_cut_133 : decode cX7_cut 133 = .ok (.putfield 34, 3) := sorry
theorem dX7_cut_136 : decode cX7_cut 136 = .ok (.aload_n 1, 1) := sorry
theorem dX7_cut_137 : decode cX7_cut 137 = .ok (.aload_n 0, 1) := sorry
theorem dX7_cut_138 : decode cX7_cut 138 = .ok (.getfield 37, 3) := sorry
theorem dX7_cut_141 : decode cX7_cut 141 = .ok (.putfield 37, 3) := sorry
theorem dX7_cut_144 : decode cX7_cut 144 = .ok (.aload_n 1, 1) := sorry
theorem dX7_cut_145 : decode cX7_cut 145 = .ok (.aload_n 0, 1) := sorry
theorem dX7_cut_146 : decode cX7_cut 146 = .ok (.getfield 40, 3) := sorry
theorem dX7_cut_149 : decode cX7_cut 149 = .ok (.putfield 40, 3) := sorry
theorem dX7_cut_152 : decode cX7_cut 152 = .ok (.aload_n 1, 1) := sorry
theorem dX7_cut_153 : decode cX7_cut 153 = .ok (.areturn, 1) := sorry
set_option maxHeartbeats 8000000 in
set_option maxRecDepth 100000 in
theorem k_X7_cut (l : Launch) (D : va_G) (cy : Nat → ClassId) (ld : Nat → Nat) (t : tk_T) (hF : tk_okF) (sz : Nat) (a0 : Nat) (ht_a0 : t a0 = (8, 512, 12)) : Met l yX7_cut (wl yX7_cut cX7_cut 2 (some (.object "CradleDuel$Script"))) ({ frames := 5, cells := 7, slots := 1106, locals := 300 }) (tps D cy ld t [.ref a0] sz) (tqs D cy ld t sz) 7 1106 (fun q => sz ≤ q) := by sorry
theorem hd_yX2_addLaw : yX2_addLaw.cls ≠ "java/lang/invoke/MethodHandle" ∧ yX2_addLaw.cls ≠ "java/lang/invoke/VarHandle" ∧ (parseMethodDescriptor yX2_addLaw.desc).map (fun d => d.parameters.length) = some 1 := sorry
theorem hd7_cut : yX7_cut.cls ≠ "java/lang/invoke/MethodHandle" ∧ yX7_cut.cls ≠ "java/lang/invoke/VarHandle" ∧ (parseMethodDescriptor yX7_cut.desc).map (fun d => d.parameters.length) = some 0 := sorry
theorem dX12_law_0 : decode cX12_law 0 = .ok (.aload_n 0, 1) := sorry
theorem dX12_law_1 : decode cX12_law 1 = .ok (.getfield 178, 3) := sorry
theorem dX12_law_4 : decode cX12_law 4 = .ok (.istore_n 1, 1) := sorry
theorem dX12_law_5 : decode cX12_law 5 = .ok (.aload_n 0, 1) := sorry
theorem dX12_law_6 : decode cX12_law 6 = .ok (.iconst 0, 1) := sorry
theorem dX12_law_7 : decode cX12_law 7 = .ok (.putfield 178, 3) := sorry
theorem dX12_law_10 : decode cX12_law 10 = .ok (.aload_n 0, 1) := sorry
theorem dX12_law_11 : decode cX12_law 11 = .ok (.getfield 10, 3) := sorry
theorem dX12_law_14 : decode cX12_law 14 = .ok (.getfield 188, 3) := sorry
theorem dX12_law_17 : decode cX12_law 17 = .ok (.bipush 6, 2) := sorry
theorem dX12_law_19 : decode cX12_law 19 = .ok (.if_icmp .lt 10, 3) := sorry
theorem dX12_law_29 : decode cX12_law 29 = .ok (.aload_n 0, 1) := sorry
theorem dX12_law_30 : decode cX12_law 30 = .ok (.aload_n 0, 1) := sorry
theorem dX12_law_31 : decode cX12_law 31 = .ok (.getfield 64, 3) := sorry
theorem dX12_law_34 : decode cX12_law 34 = .ok (.iload_n 1, 1) := sorry
theorem dX12_law_35 : decode cX12_law 35 = .ok (.iconst 1, 1) := sorry
theorem dX12_law_36 : decode cX12_law 36 = .ok (.invokevirtual 191, 3) := sorry
theorem dX12_law_39 : decode cX12_law 39 = .ok (.putfield 99, 3) := sorry
theorem dX12_law_42 : decode cX12_law 42 = .ok (.aload_n 0, 1) := sorry
theorem dX12_law_43 : decode cX12_law 43 = .ok (.getfield 99, 3) := sorry
theorem dX12_law_46 : decode cX12_law 46 = .ok (.iconst (-1), 1) := sorry
theorem dX12_law_47 : decode cX12_law 47 = .ok (.if_icmp .eq 10, 3) := sorry
theorem dX12_law_57 : decode cX12_law 57 = .ok (.aload_n 0, 1) := sorry
theorem dX12_law_58 : decode cX12_law 58 = .ok (.aload_n 0, 1) := sorry
theorem dX12_law_59 : decode cX12_law 59 = .ok (.getfield 10, 3) := sorry
theorem dX12_law_62 : decode cX12_law 62 = .ok (.aload_n 0, 1) := sorry
theorem dX12_law_63 : decode cX12_law 63 = .ok (.getfield 64, 3) := sorry
theorem dX12_law_66 : decode cX12_law 66 = .ok (.getfield 195, 3) := sorry
theorem dX12_law_69 : decode cX12_law 69 = .ok (.invokevirtual 199, 3) := sorry
theorem dX12_law_72 : decode cX12_law 72 = .ok (.invokevirtual 205, 3) := sorry
theorem dX12_law_75 : decode cX12_law 75 = .ok (.invokevirtual 165, 3) := sorry
theorem dX12_law_78 : decode cX12_law 78 = .ok (.ireturn, 1) := sorry
theorem dX12_law_50 : decode cX12_law 50 = .ok (.aload_n 0, 1) := sorry
theorem dX12_law_51 : decode cX12_law 51 = .ok (.bipush (-6), 2) := sorry
theorem dX12_law_53 : decode cX12_law 53 = .ok (.invokevirtual 159, 3) := sorry
theorem dX12_law_56 : decode cX12_law 56 = .ok (.ireturn, 1) := sorry
theorem dX12_law_22 : decode cX12_law 22 = .ok (.aload_n 0, 1) := sorry
theorem dX12_law_23 : decode cX12_law 23 = .ok (.bipush (-5), 2) := sorry
theorem dX12_law_25 : decode cX12_law 25 = .ok (.invokevirtual 159, 3) := sorry
theorem dX12_law_28 : decode cX12_law 28 = .ok (.ireturn, 1) := sorry
set_option maxHeartbeats 4000000 in
set_option maxRecDepth 100000 in
theorem k_X12_law (l : Launch) (D : va_G) (cy : Nat → ClassId) (ld : Nat → Nat) (t : tk_T) (hF : tk_okF) (sz : Nat) (a0 : Nat) (ht_a0 : t a0 = (13, 0, 0)) : Met l yX12_law (wl yX12_law cX12_law 2 (some .int)) ({ frames := 42, cells := 7, slots := 1106, locals := 2870 }) (tps D cy ld t [.ref a0] sz) (tql D cy ld t (fun q => tk_w t [(13, 0, 0), (8, 12, 12), (7, 0, 0), (20, 0, 0), (23, 0, 0), (28, 0, 0), (3, 0, 0)] q ∨ sz ≤ q) sz) 7 1106 (fun q => tk_w t [(13, 0, 0), (8, 12, 12), (7, 0, 0), (20, 0, 0), (23, 0, 0), (28, 0, 0), (3, 0, 0)] q ∨ sz ≤ q) := by sorry
end

section
section FXG
variable {p : Program} {l : Launch} {e : Env} {R : Room} {s : State} {m : MethodId} {args : Array Value} {below : List Frame} {meth : Method} {c : Code} {H : Heap} {locs : List Loc} {cells slots : Nat} {Q : State → Prop}
variable {pc : Nat} {ls : Array Slot} {rest : List Value} {A : Nat → Prop} {H0 : Heap} {index : Nat} {D : va_G} {cy : Nat → ClassId} {ld : Nat → Nat} {ws : va_W} {own : String} {cc : ByteArray}
abbrev gg (q : Nat) : Nat → Option Nat := (va_up (va_up (va_up (va_up (va_up (va_up (va_up (va_up (fun _ => none) 0 (some (q + 1))) 1 (some (q + 2))) 2 (some (q + 3))) 3 (some (q + 4))) 4 (some (q + 5))) 5 (some (q + 6))) 6 (some (q + 7))) 7 (some (q + 8)))
theorem gg_out0 (c : ClassId) (N h0 : Nat) : ∀ i : Nat, Jvm.Free.Multi.outerC c N h0 i = arrV c N (fun j => va_rf (if j < i then some (h0 + 1 + j) else none))
  | 0 => by
    show ({ cls := c, slots := Array.replicate N .null, vm := .none } : Cell) = _
    rw [arrV_new]
    refine congrArg (arrV c N) (funext fun j => ?_)
    simp [va_rf]
  | i + 1 => by
    show (Jvm.Free.Multi.outerC c N h0 i).setSlot i (.ref (h0 + 1 + i)) = _
    rw [gg_out0 c N h0 i, arrV_store]
    refine congrArg (arrV c N) (funext fun j => ?_)
    by_cases e : j = i
    · subst e
      simp [updV, va_rf]
    · by_cases h : j < i
      · simp [updV, e, h, Nat.lt_succ_of_lt h]
      · simp [updV, e, h, show ¬ j < i + 1 by omega]
theorem gg_outer (cA : ClassId) (h : Nat) : Jvm.Free.Multi.outerC cA 8 h 8 = vp_cell cA (8, .inr (.inr (.inr (.inr (gg h))))) := by sorry
theorem gg_inner (cA : ClassId) : Jvm.Free.Multi.innerC cA 8 (.int 0) = vp_cell cA (8, .inl (fun _ => 0)) := arrV_new cA 8 (.int 0)
/-- new int[8][8] with its rows -/
theorem fx_gridK (hx : p.tables.exec = Jvm.exec) (hb : c.code = cc) {ty : FieldType} (hty : ty = .int) (hown : s.vm.findClass own = some m.cls) (hclink : (Cond.classLink own index ("[" ++ (FieldType.array ty).toString)).before args s = true) (hover : (Cond.arrayOver (.array ty)).before args s = true) (harr : (Cond.arrayClass ty).before args s = true) (hK : kk_K D cy ld s) (hP : va_P D vwCl ws H) (hD : va_D A ws) (hS : va_S A H0 H locs) (hA : ∀ q, H0.size ≤ q → A q)
    (hcells : cells + (1 + 8) ≤ R.cells) (hslots : slots + (8 + 8 * 8) ≤ R.slots) (hdg : decode cc pc = .ok (.multianewarray index 2, 4))
    (kk : ∀ (q : Nat) (H1 : Heap), va_P D vwCl (ws ++ [(q, .inl (cy 6, 8, .inr (.inr (.inr (.inr (gg q)))))), (q + 1, .inl (cy 0, 8, .inl (fun _ => 0))), (q + 2, .inl (cy 0, 8, .inl (fun _ => 0))), (q + 3, .inl (cy 0, 8, .inl (fun _ => 0))), (q + 4, .inl (cy 0, 8, .inl (fun _ => 0))), (q + 5, .inl (cy 0, 8, .inl (fun _ => 0))), (q + 6, .inl (cy 0, 8, .inl (fun _ => 0))), (q + 7, .inl (cy 0, 8, .inl (fun _ => 0))), (q + 8, .inl (cy 0, 8, .inl (fun _ => 0)))]) H1 → va_D A (ws ++ [(q, .inl (cy 6, 8, .inr (.inr (.inr (.inr (gg q)))))), (q + 1, .inl (cy 0, 8, .inl (fun _ => 0))), (q + 2, .inl (cy 0, 8, .inl (fun _ => 0))), (q + 3, .inl (cy 0, 8, .inl (fun _ => 0))), (q + 4, .inl (cy 0, 8, .inl (fun _ => 0))), (q + 5, .inl (cy 0, 8, .inl (fun _ => 0))), (q + 6, .inl (cy 0, 8, .inl (fun _ => 0))), (q + 7, .inl (cy 0, 8, .inl (fun _ => 0))), (q + 8, .inl (cy 0, 8, .inl (fun _ => 0)))]) → va_S A H0 H1 locs → W p l e R s m args below meth c H1 locs (cells + 1 + 8) (slots + 8 + 8 * 8) Q (F0 m (pc + 4) ls (.ref q :: rest))) : W p l e R s m args below meth c H locs cells slots Q (F0 m pc ls (.int 8 :: .int 8 :: rest)) := by
  subst hty
  intro T hT Xs
  obtain ⟨vm₁, cA, comp, -, fA, fC, -, -, X', step⟩ := Xs.multianewarray2F hx hown hclink hover harr (g := F0 m pc ls (.int 8 :: .int 8 :: rest)) rfl (by rw [hb]; exact hdg) rfl (by decide) (by decide) (by decide) (by decide) (by decide) rfl rfl hcells hslots
  obtain rfl : cA = cy 6 := Option.some.inj (fA.symm.trans (hK.1.2 6 _ rfl).2)
  obtain rfl : comp = cy 0 := Option.some.inj (fC.symm.trans (hK.1.2 0 _ rfl).2)
  have hTh : (T.setVm vm₁).heap = H := hT
  generalize hF : Jvm.Free.Multi.fill (T.setVm vm₁) (cy 6) (cy 0) (8 : Int32).toNatClampNeg (8 : Int32).toNatClampNeg (defaultValue .int) (8 : Int32).toNatClampNeg = F at X' step
  obtain ⟨f1, f2, -, -⟩ := Jvm.Free.Multi.fill_facts (T.setVm vm₁) (cy 6) (cy 0) (8 : Int32).toNatClampNeg (8 : Int32).toNatClampNeg (defaultValue .int) (8 : Int32).toNatClampNeg
  rw [hF, hTh] at f1 f2
  have f1 : F.heap.size = H.size + 1 + 8 := f1
  have f2 : F.heap[H.size]? = some (vp_cell (cy 6) (8, .inr (.inr (.inr (.inr (gg H.size)))))) := f2.trans (congrArg some (gg_outer (cy 6) H.size))
  have hold : ∀ x : Nat, x < H.size → F.heap[x]? = H[x]? := fun x hx => by
    have := Jvm.Free.Multi.fill_old (T.setVm vm₁) (cy 6) (cy 0) (8 : Int32).toNatClampNeg (8 : Int32).toNatClampNeg (defaultValue .int) (a := x) (by rw [hTh]; exact hx) (8 : Int32).toNatClampNeg
    rw [hF, hTh] at this
    exact this
  have hrow : ∀ j : Nat, j < 8 → F.heap[H.size + 1 + j]? = some (vp_cell (cy 0) (8, .inl (fun _ => 0))) := fun j hj => by
    have := Jvm.Free.Multi.fill_inner (T.setVm vm₁) (cy 6) (cy 0) (8 : Int32).toNatClampNeg (8 : Int32).toNatClampNeg (defaultValue .int) (8 : Int32).toNatClampNeg j hj
    rw [hF, hTh] at this
    exact this.trans (congrArg some (gg_inner (cy 0)))
  have hn : va_P D vwCl [(H.size, .inl (cy 6, 8, .inr (.inr (.inr (.inr (gg H.size)))))), (H.size + 1, .inl (cy 0, 8, .inl (fun _ => 0))), (H.size + 2, .inl (cy 0, 8, .inl (fun _ => 0))), (H.size + 3, .inl (cy 0, 8, .inl (fun _ => 0))), (H.size + 4, .inl (cy 0, 8, .inl (fun _ => 0))), (H.size + 5, .inl (cy 0, 8, .inl (fun _ => 0))), (H.size + 6, .inl (cy 0, 8, .inl (fun _ => 0))), (H.size + 7, .inl (cy 0, 8, .inl (fun _ => 0))), (H.size + 8, .inl (cy 0, 8, .inl (fun _ => 0)))] F.heap := by
    intro k q hq
    match k, hq with
    | 0, hq => cases hq; exact f2
    | 1, hq => cases hq; exact hrow 0 (by decide)
    | 2, hq => cases hq; exact hrow 1 (by decide)
    | 3, hq => cases hq; exact hrow 2 (by decide)
    | 4, hq => cases hq; exact hrow 3 (by decide)
    | 5, hq => cases hq; exact hrow 4 (by decide)
    | 6, hq => cases hq; exact hrow 5 (by decide)
    | 7, hq => cases hq; exact hrow 6 (by decide)
    | 8, hq => cases hq; exact hrow 7 (by decide)
    | k + 9, hq => simp at hq
  have hP1 := (hP.kept (fun k9 x hx => hold x.1 ((hP k9 x hx).lt))).app hn
  have hH0 := hS.1
  have hD1 : ∀ (k : Nat) (w : va_W), w.length = k → va_D A (ws ++ w) → ∀ e : va_E, (∀ (i : Nat) (x : Nat × va_E), (ws ++ w)[i]? = some x → x.1 < H.size + k) → H0.size ≤ H.size + k → va_D A (ws ++ (w ++ [(H.size + k, e)])) ∧ ∀ (i : Nat) (x : Nat × va_E), (ws ++ (w ++ [(H.size + k, e)]))[i]? = some x → x.1 < H.size + (k + 1) := by
    intro k w hw hd e hlt hz
    rw [← List.append_assoc]
    refine ⟨⟨fun i j a b hi hj hab => ?_, fun i a hi => ?_⟩, fun i x hi => ?_⟩
    · rw [List.getElem?_append] at hi hj
      by_cases h1 : i < (ws ++ w).length
      · rw [if_pos h1] at hi
        by_cases h2 : j < (ws ++ w).length
        · rw [if_pos h2] at hj
          exact hd.1 i j a b hi hj hab
        · rw [if_neg h2] at hj
          have := hlt i a hi
          have hb : b = (H.size + k, e) := by
            rcases Nat.eq_zero_or_pos (j - (ws ++ w).length) with z | z
            · rw [z] at hj; exact (Option.some.inj hj).symm
            · rw [List.getElem?_eq_none (Nat.succ_le_of_lt z)] at hj; cases hj
          rw [hab, hb] at this
          exact absurd this (Nat.lt_irrefl _)
      · rw [if_neg h1] at hi
        have ha : a = (H.size + k, e) ∧ i - (ws ++ w).length = 0 := by
          rcases Nat.eq_zero_or_pos (i - (ws ++ w).length) with z | z
          · rw [z] at hi; exact ⟨(Option.some.inj hi).symm, z⟩
          · rw [List.getElem?_eq_none (Nat.succ_le_of_lt z)] at hi; cases hi
        by_cases h2 : j < (ws ++ w).length
        · rw [if_pos h2] at hj
          have := hlt j b hj
          rw [← hab, ha.1] at this
          exact absurd this (Nat.lt_irrefl _)
        · rw [if_neg h2] at hj
          have z2 : j - (ws ++ w).length = 0 := by
            rcases Nat.eq_zero_or_pos (j - (ws ++ w).length) with z | z
            · exact z
            · rw [List.getElem?_eq_none (Nat.succ_le_of_lt z)] at hj; cases hj
          have := ha.2
          omega
    · rw [List.getElem?_append] at hi
      by_cases h1 : i < (ws ++ w).length
      · rw [if_pos h1] at hi
        exact hd.2 i a hi
      · rw [if_neg h1] at hi
        rcases Nat.eq_zero_or_pos (i - (ws ++ w).length) with z | z
        · rw [z] at hi; cases hi; exact hA _ hz
        · rw [List.getElem?_eq_none (Nat.succ_le_of_lt z)] at hi; cases hi
    · rw [List.getElem?_append] at hi
      by_cases h1 : i < (ws ++ w).length
      · rw [if_pos h1] at hi
        have := hlt i x hi
        omega
      · rw [if_neg h1] at hi
        rcases Nat.eq_zero_or_pos (i - (ws ++ w).length) with z | z
        · rw [z] at hi; cases hi; show H.size + k < _; omega
        · rw [List.getElem?_eq_none (Nat.succ_le_of_lt z)] at hi; cases hi
  have d0 : va_D A (ws ++ []) := by rw [List.append_nil]; exact hD
  have l0 : ∀ (i : Nat) (x : Nat × va_E), (ws ++ [])[i]? = some x → x.1 < H.size + 0 := fun i x hi => by rw [List.append_nil] at hi; exact (hP i x hi).lt
  obtain ⟨d1, l1⟩ := hD1 0 [] rfl d0 (.inl (cy 6, 8, .inr (.inr (.inr (.inr (gg H.size)))))) l0 (by omega)
  obtain ⟨d2, l2⟩ := hD1 1 _ rfl d1 (.inl (cy 0, 8, .inl (fun _ => 0))) l1 (by omega)
  obtain ⟨d3, l3⟩ := hD1 2 _ rfl d2 (.inl (cy 0, 8, .inl (fun _ => 0))) l2 (by omega)
  obtain ⟨d4, l4⟩ := hD1 3 _ rfl d3 (.inl (cy 0, 8, .inl (fun _ => 0))) l3 (by omega)
  obtain ⟨d5, l5⟩ := hD1 4 _ rfl d4 (.inl (cy 0, 8, .inl (fun _ => 0))) l4 (by omega)
  obtain ⟨d6, l6⟩ := hD1 5 _ rfl d5 (.inl (cy 0, 8, .inl (fun _ => 0))) l5 (by omega)
  obtain ⟨d7, l7⟩ := hD1 6 _ rfl d6 (.inl (cy 0, 8, .inl (fun _ => 0))) l6 (by omega)
  obtain ⟨d8, l8⟩ := hD1 7 _ rfl d7 (.inl (cy 0, 8, .inl (fun _ => 0))) l7 (by omega)
  obtain ⟨d9, -⟩ := hD1 8 _ rfl d8 (.inl (cy 0, 8, .inl (fun _ => 0))) l8 (by omega)
  have hS1 : va_S A H0 F.heap locs := ⟨by rw [f1]; omega, fun q hq h => by rw [hold q (Nat.lt_of_lt_of_le hq hS.1)]; exact hS.2.1 q hq h, hS.2.2⟩
  obtain ⟨t, a1, b1⟩ := kk H.size F.heap hP1 d9 hS1 F rfl X'
  exact ⟨t, step t (by rw [hT]; exact a1), b1⟩
end FXG

end
