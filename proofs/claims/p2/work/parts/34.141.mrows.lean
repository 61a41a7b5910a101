theorem hd_yX13_play : yX13_play.cls ≠ "java/lang/invoke/MethodHandle" ∧ yX13_play.cls ≠ "java/lang/invoke/VarHandle" ∧ (parseMethodDescriptor yX13_play.desc).map (fun d => d.parameters.length) = some 1 := by decide +kernel
theorem dX13_game_0 : decode cX13_game 0 = .ok (.aload_n 0, 1) := by decide +kernel
theorem dX13_game_1 : decode cX13_game 1 = .ok (.iconst 0, 1) := by decide +kernel
theorem dX13_game_2 : decode cX13_game 2 = .ok (.putfield 170, 3) := by decide +kernel
theorem dX13_game_5 : decode cX13_game 5 = .ok (.aload_n 0, 1) := by decide +kernel
theorem dX13_game_6 : decode cX13_game 6 = .ok (.invokevirtual 434, 3) := by decide +kernel
theorem dX13_game_9 : decode cX13_game 9 = .ok (.ifCond .eq 27, 3) := by decide +kernel
theorem dX13_game_36 : decode cX13_game 36 = .ok (.sipush (-1000), 3) := by decide +kernel
theorem dX13_game_39 : decode cX13_game 39 = .ok (.ireturn, 1) := by decide +kernel
theorem dX13_game_12 : decode cX13_game 12 = .ok (.iload_n 1, 1) := by decide +kernel
theorem dX13_game_13 : decode cX13_game 13 = .ok (.i2l, 1) := by decide +kernel
theorem dX13_game_14 : decode cX13_game 14 = .ok (.lconst 1, 1) := by decide +kernel
theorem dX13_game_15 : decode cX13_game 15 = .ok (.ldc2_w 205, 3) := by decide +kernel
theorem dX13_game_18 : decode cX13_game 18 = .ok (.invokestatic 190, 3) := by decide +kernel
theorem dX13_game_21 : decode cX13_game 21 = .ok (.ifCond .eq 15, 3) := by decide +kernel
theorem dX13_game_24 : decode cX13_game 24 = .ok (.iload_n 2, 1) := by decide +kernel
theorem dX13_game_25 : decode cX13_game 25 = .ok (.i2l, 1) := by decide +kernel
theorem dX13_game_26 : decode cX13_game 26 = .ok (.lconst 0, 1) := by decide +kernel
theorem dX13_game_27 : decode cX13_game 27 = .ok (.ldc2_w 415, 3) := by decide +kernel
theorem dX13_game_30 : decode cX13_game 30 = .ok (.invokestatic 190, 3) := by decide +kernel
theorem dX13_game_33 : decode cX13_game 33 = .ok (.ifCond .ne 7, 3) := by decide +kernel
theorem dX13_game_40 : decode cX13_game 40 = .ok (.aload_n 0, 1) := by decide +kernel
theorem dX13_game_41 : decode cX13_game 41 = .ok (.iload_n 1, 1) := by decide +kernel
theorem dX13_game_42 : decode cX13_game 42 = .ok (.invokevirtual 504, 3) := by decide +kernel
theorem dX13_game_45 : decode cX13_game 45 = .ok (.iload_n 2, 1) := by decide +kernel
theorem dX13_game_46 : decode cX13_game 46 = .ok (.ifCond .ne 15, 3) := by decide +kernel
theorem dX13_game_61 : decode cX13_game 61 = .ok (.iload_n 2, 1) := by decide +kernel
theorem dX13_game_62 : decode cX13_game 62 = .ok (.iconst 1, 1) := by decide +kernel
theorem dX13_game_63 : decode cX13_game 63 = .ok (.if_icmp .ne 28, 3) := by decide +kernel
theorem dX13_game_91 : decode cX13_game 91 = .ok (.aload_n 0, 1) := by decide +kernel
theorem dX13_game_92 : decode cX13_game 92 = .ok (.getfield 119, 3) := by decide +kernel
theorem dX13_game_95 : decode cX13_game 95 = .ok (.iconst 0, 1) := by decide +kernel
theorem dX13_game_96 : decode cX13_game 96 = .ok (.iaload, 1) := by decide +kernel
theorem dX13_game_97 : decode cX13_game 97 = .ok (.ireturn, 1) := by decide +kernel
theorem dX13_game_66 : decode cX13_game 66 = .ok (.aload_n 0, 1) := by decide +kernel
theorem dX13_game_67 : decode cX13_game 67 = .ok (.getfield 116, 3) := by decide +kernel
theorem dX13_game_70 : decode cX13_game 70 = .ok (.iconst 0, 1) := by decide +kernel
theorem dX13_game_71 : decode cX13_game 71 = .ok (.iaload, 1) := by decide +kernel
theorem dX13_game_72 : decode cX13_game 72 = .ok (.ifCond .ne 7, 3) := by decide +kernel
theorem dX13_game_79 : decode cX13_game 79 = .ok (.aload_n 0, 1) := by decide +kernel
theorem dX13_game_80 : decode cX13_game 80 = .ok (.getfield 116, 3) := by decide +kernel
theorem dX13_game_83 : decode cX13_game 83 = .ok (.iconst 0, 1) := by decide +kernel
theorem dX13_game_84 : decode cX13_game 84 = .ok (.iaload, 1) := by decide +kernel
theorem dX13_game_85 : decode cX13_game 85 = .ok (.bipush 10, 2) := by decide +kernel
theorem dX13_game_87 : decode cX13_game 87 = .ok (.irem, 1) := by decide +kernel
theorem dX13_game_88 : decode cX13_game 88 = .ok (.goto 9, 3) := by decide +kernel
theorem dX13_game_75 : decode cX13_game 75 = .ok (.iconst (-1), 1) := by decide +kernel
theorem dX13_game_76 : decode cX13_game 76 = .ok (.goto 21, 3) := by decide +kernel
theorem dX13_game_49 : decode cX13_game 49 = .ok (.aload_n 0, 1) := by decide +kernel
theorem dX13_game_50 : decode cX13_game 50 = .ok (.getfield 116, 3) := by decide +kernel
theorem dX13_game_53 : decode cX13_game 53 = .ok (.iconst 0, 1) := by decide +kernel
theorem dX13_game_54 : decode cX13_game 54 = .ok (.iaload, 1) := by decide +kernel
theorem dX13_game_55 : decode cX13_game 55 = .ok (.bipush 10, 2) := by decide +kernel
theorem dX13_game_57 : decode cX13_game 57 = .ok (.idiv, 1) := by decide +kernel
theorem dX13_game_58 : decode cX13_game 58 = .ok (.goto 39, 3) := by decide +kernel
set_option maxHeartbeats 4000000 in
set_option maxRecDepth 100000 in
theorem k_X13_game (l : Launch) (D : va_G) (cy : Nat → ClassId) (ld ad : Nat → Nat) (am : Nat) (hD : mz_D ad am) (Fa : Nat → Int32) (Ga : Nat → Int64) (Ra : Nat → Nat → Int32) (Sa : Nat → Nat → Int64) (p1 : Int32) (p2 : Int32) (hIF : mz_IF true Fa) (hIG : mz_IG Ga) (hIR : mz_IR [] true Ra) : Met l yX13_game (wl yX13_game cX13_game 3 (some .int)) ({ frames := 11, cells := 0, slots := 0, locals := 700 }) (mz_p D cy ld ad am Fa Ga Ra Sa [.ref am, .int p1, .int p2]) (mz_i D cy ad am (fun r F G R S => mz_IF true F ∧ mz_IG G ∧ mz_IR [] true R ∧ (∀ k : Nat, k ∉ ([0, 34, 38, 41] : List Nat) → F k = Fa k) ∧ (∀ k : Nat, k ∉ ([3, 6, 43, 44, 45, 46] : List Nat) → R k = Ra k) ∧ (∀ k : Nat, k ∉ ([39, 40] : List Nat) → G k = Ga k) ∧ rK1 (Ra 3) (R 3))) 0 0 (mz_W ad am) := by sorry
