theorem dX13_manyOf_0 : decode cX13_manyOf 0 = .ok (.iconst 0, 1) := by decide +kernel
theorem dX13_manyOf_1 : decode cX13_manyOf 1 = .ok (.istore_n 2, 1) := by decide +kernel
theorem dX13_manyOf_2 : decode cX13_manyOf 2 = .ok (.iconst 0, 1) := by decide +kernel
theorem dX13_manyOf_3 : decode cX13_manyOf 3 = .ok (.istore_n 3, 1) := by decide +kernel
theorem dX13_manyOf_4 : decode cX13_manyOf 4 = .ok (.iload_n 3, 1) := by decide +kernel
theorem dX13_manyOf_5 : decode cX13_manyOf 5 = .ok (.aload_n 0, 1) := by decide +kernel
theorem dX13_manyOf_6 : decode cX13_manyOf 6 = .ok (.getfield 13, 3) := by decide +kernel
theorem dX13_manyOf_9 : decode cX13_manyOf 9 = .ok (.iconst 0, 1) := by decide +kernel
theorem dX13_manyOf_10 : decode cX13_manyOf 10 = .ok (.iaload, 1) := by decide +kernel
theorem dX13_manyOf_11 : decode cX13_manyOf 11 = .ok (.if_icmp .ge 27, 3) := by decide +kernel
theorem dX13_manyOf_38 : decode cX13_manyOf 38 = .ok (.iload_n 2, 1) := by decide +kernel
theorem dX13_manyOf_39 : decode cX13_manyOf 39 = .ok (.ireturn, 1) := by decide +kernel
theorem dX13_manyOf_14 : decode cX13_manyOf 14 = .ok (.iload_n 2, 1) := by decide +kernel
theorem dX13_manyOf_15 : decode cX13_manyOf 15 = .ok (.aload_n 0, 1) := by decide +kernel
theorem dX13_manyOf_16 : decode cX13_manyOf 16 = .ok (.iload_n 3, 1) := by decide +kernel
theorem dX13_manyOf_17 : decode cX13_manyOf 17 = .ok (.iconst 2, 1) := by decide +kernel
theorem dX13_manyOf_18 : decode cX13_manyOf 18 = .ok (.invokevirtual 207, 3) := by decide +kernel
theorem dX13_manyOf_21 : decode cX13_manyOf 21 = .ok (.iload_n 1, 1) := by decide +kernel
theorem dX13_manyOf_30 : decode cX13_manyOf 30 = .ok (.iadd, 1) := by decide +kernel
theorem dX13_manyOf_31 : decode cX13_manyOf 31 = .ok (.istore_n 2, 1) := by decide +kernel
theorem dX13_manyOf_32 : decode cX13_manyOf 32 = .ok (.iinc 3 1, 3) := by decide +kernel
theorem dX13_manyOf_35 : decode cX13_manyOf 35 = .ok (.goto (-31), 3) := by decide +kernel
theorem dX13_manyOf_22 : decode cX13_manyOf 22 = .ok (.if_icmp .ne 7, 3) := by decide +kernel
theorem dX13_manyOf_29 : decode cX13_manyOf 29 = .ok (.iconst 0, 1) := by decide +kernel
theorem dX13_manyOf_25 : decode cX13_manyOf 25 = .ok (.iconst 1, 1) := by decide +kernel
theorem dX13_manyOf_26 : decode cX13_manyOf 26 = .ok (.goto 4, 3) := by decide +kernel
set_option maxHeartbeats 4000000 in
set_option maxRecDepth 100000 in
theorem k_X13_manyOf (l : Launch) (D : va_G) (cy : Nat → ClassId) (ld ad : Nat → Nat) (am : Nat) (hD : mz_D ad am) (Fa : Nat → Int32) (Ga : Nat → Int64) (Ra : Nat → Nat → Int32) (Sa : Nat → Nat → Int64) (p1 : Int32) (hIF : mz_IF false Fa) (hIG : mz_IG Ga) (hIR : mz_IR [] true Ra) : Met l yX13_manyOf (wl yX13_manyOf cX13_manyOf 4 (some .int)) ({ frames := 4, cells := 0, slots := 0, locals := 210 }) (mz_p D cy ld ad am Fa Ga Ra Sa [.ref am, .int p1]) (mz_j D cy ad am Fa Ga Ra Sa (fun r => 0 ≤ r.toInt ∧ r.toInt ≤ 8)) 0 0 (mz_W ad am) := by sorry
