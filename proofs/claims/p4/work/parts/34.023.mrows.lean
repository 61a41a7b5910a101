section
theorem dX13_verse1_0 : decode cX13_verse1 0 = .ok (.iload_n 1, 1) := by decide +kernel
theorem dX13_verse1_1 : decode cX13_verse1 1 = .ok (.i2l, 1) := by decide +kernel
theorem dX13_verse1_2 : decode cX13_verse1 2 = .ok (.lconst 1, 1) := by decide +kernel
theorem dX13_verse1_3 : decode cX13_verse1 3 = .ok (.ldc2_w 211, 3) := by decide +kernel
theorem dX13_verse1_6 : decode cX13_verse1 6 = .ok (.invokestatic 190, 3) := by decide +kernel
theorem dX13_verse1_9 : decode cX13_verse1 9 = .ok (.ifCond .eq 15, 3) := by decide +kernel
theorem dX13_verse1_24 : decode cX13_verse1 24 = .ok (.iconst (-1), 1) := by decide +kernel
theorem dX13_verse1_25 : decode cX13_verse1 25 = .ok (.ireturn, 1) := by decide +kernel
theorem dX13_verse1_12 : decode cX13_verse1 12 = .ok (.iload_n 2, 1) := by decide +kernel
theorem dX13_verse1_13 : decode cX13_verse1 13 = .ok (.i2l, 1) := by decide +kernel
theorem dX13_verse1_14 : decode cX13_verse1 14 = .ok (.lconst 0, 1) := by decide +kernel
theorem dX13_verse1_15 : decode cX13_verse1 15 = .ok (.ldc2_w 205, 3) := by decide +kernel
theorem dX13_verse1_18 : decode cX13_verse1 18 = .ok (.invokestatic 190, 3) := by decide +kernel
theorem dX13_verse1_21 : decode cX13_verse1 21 = .ok (.ifCond .ne 5, 3) := by decide +kernel
theorem dX13_verse1_26 : decode cX13_verse1 26 = .ok (.aload_n 0, 1) := by decide +kernel
theorem dX13_verse1_27 : decode cX13_verse1 27 = .ok (.getfield 13, 3) := by decide +kernel
theorem dX13_verse1_30 : decode cX13_verse1 30 = .ok (.iconst 1, 1) := by decide +kernel
theorem dX13_verse1_31 : decode cX13_verse1 31 = .ok (.iaload, 1) := by decide +kernel
theorem dX13_verse1_32 : decode cX13_verse1 32 = .ok (.istore_n 3, 1) := by decide +kernel
theorem dX13_verse1_33 : decode cX13_verse1 33 = .ok (.iload_n 3, 1) := by decide +kernel
theorem dX13_verse1_34 : decode cX13_verse1 34 = .ok (.bipush 10, 2) := by decide +kernel
theorem dX13_verse1_36 : decode cX13_verse1 36 = .ok (.if_icmp .ne 6, 3) := by decide +kernel
theorem dX13_verse1_42 : decode cX13_verse1 42 = .ok (.aload_n 0, 1) := by decide +kernel
theorem dX13_verse1_43 : decode cX13_verse1 43 = .ok (.getfield 13, 3) := by decide +kernel
theorem dX13_verse1_46 : decode cX13_verse1 46 = .ok (.bipush 58, 2) := by decide +kernel
theorem dX13_verse1_48 : decode cX13_verse1 48 = .ok (.iconst 2, 1) := by decide +kernel
theorem dX13_verse1_49 : decode cX13_verse1 49 = .ok (.iload_n 3, 1) := by decide +kernel
theorem dX13_verse1_50 : decode cX13_verse1 50 = .ok (.imul, 1) := by decide +kernel
theorem dX13_verse1_51 : decode cX13_verse1 51 = .ok (.iadd, 1) := by decide +kernel
theorem dX13_verse1_52 : decode cX13_verse1 52 = .ok (.iload_n 1, 1) := by decide +kernel
theorem dX13_verse1_53 : decode cX13_verse1 53 = .ok (.iastore, 1) := by decide +kernel
theorem dX13_verse1_54 : decode cX13_verse1 54 = .ok (.aload_n 0, 1) := by decide +kernel
theorem dX13_verse1_55 : decode cX13_verse1 55 = .ok (.getfield 13, 3) := by decide +kernel
theorem dX13_verse1_58 : decode cX13_verse1 58 = .ok (.bipush 58, 2) := by decide +kernel
theorem dX13_verse1_60 : decode cX13_verse1 60 = .ok (.iconst 2, 1) := by decide +kernel
theorem dX13_verse1_61 : decode cX13_verse1 61 = .ok (.iload_n 3, 1) := by decide +kernel
theorem dX13_verse1_62 : decode cX13_verse1 62 = .ok (.imul, 1) := by decide +kernel
theorem dX13_verse1_63 : decode cX13_verse1 63 = .ok (.iadd, 1) := by decide +kernel
theorem dX13_verse1_64 : decode cX13_verse1 64 = .ok (.iconst 1, 1) := by decide +kernel
theorem dX13_verse1_65 : decode cX13_verse1 65 = .ok (.iadd, 1) := by decide +kernel
theorem dX13_verse1_66 : decode cX13_verse1 66 = .ok (.iload_n 2, 1) := by decide +kernel
theorem dX13_verse1_67 : decode cX13_verse1 67 = .ok (.iastore, 1) := by decide +kernel
theorem dX13_verse1_68 : decode cX13_verse1 68 = .ok (.aload_n 0, 1) := by decide +kernel
theorem dX13_verse1_69 : decode cX13_verse1 69 = .ok (.getfield 13, 3) := by decide +kernel
theorem dX13_verse1_72 : decode cX13_verse1 72 = .ok (.iconst 1, 1) := by decide +kernel
theorem dX13_verse1_73 : decode cX13_verse1 73 = .ok (.dup2, 1) := by decide +kernel
theorem dX13_verse1_74 : decode cX13_verse1 74 = .ok (.iaload, 1) := by decide +kernel
theorem dX13_verse1_75 : decode cX13_verse1 75 = .ok (.iconst 1, 1) := by decide +kernel
theorem dX13_verse1_76 : decode cX13_verse1 76 = .ok (.iadd, 1) := by decide +kernel
theorem dX13_verse1_77 : decode cX13_verse1 77 = .ok (.iastore, 1) := by decide +kernel
theorem dX13_verse1_78 : decode cX13_verse1 78 = .ok (.iload_n 3, 1) := by decide +kernel
theorem dX13_verse1_79 : decode cX13_verse1 79 = .ok (.ireturn, 1) := by decide +kernel
theorem dX13_verse1_39 : decode cX13_verse1 39 = .ok (.bipush (-5), 2) := by decide +kernel
theorem dX13_verse1_41 : decode cX13_verse1 41 = .ok (.ireturn, 1) := by decide +kernel
end
section
theorem hd_yX13_verse1 : yX13_verse1.cls ≠ "java/lang/invoke/MethodHandle" ∧ yX13_verse1.cls ≠ "java/lang/invoke/VarHandle" ∧ (parseMethodDescriptor yX13_verse1.desc).map (fun d => d.parameters.length) = some 2 := by decide +kernel
theorem dX13_verse_0 : decode cX13_verse 0 = .ok (.aload_n 0, 1) := by decide +kernel
theorem dX13_verse_1 : decode cX13_verse 1 = .ok (.iconst 0, 1) := by decide +kernel
theorem dX13_verse_2 : decode cX13_verse 2 = .ok (.putfield 170, 3) := by decide +kernel
theorem dX13_verse_5 : decode cX13_verse 5 = .ok (.aload_n 0, 1) := by decide +kernel
theorem dX13_verse_6 : decode cX13_verse 6 = .ok (.aload_n 0, 1) := by decide +kernel
theorem dX13_verse_7 : decode cX13_verse 7 = .ok (.iload_n 1, 1) := by decide +kernel
theorem dX13_verse_8 : decode cX13_verse 8 = .ok (.iload_n 2, 1) := by decide +kernel
theorem dX13_verse_9 : decode cX13_verse 9 = .ok (.invokevirtual 213, 3) := by decide +kernel
theorem dX13_verse_12 : decode cX13_verse 12 = .ok (.invokevirtual 183, 3) := by decide +kernel
theorem dX13_verse_15 : decode cX13_verse 15 = .ok (.ireturn, 1) := by decide +kernel
end
section
theorem hd_yX13_isVerse : yX13_isVerse.cls ≠ "java/lang/invoke/MethodHandle" ∧ yX13_isVerse.cls ≠ "java/lang/invoke/VarHandle" ∧ (parseMethodDescriptor yX13_isVerse.desc).map (fun d => d.parameters.length) = some 1 := by decide +kernel
theorem dX13_at_0 : decode cX13_at 0 = .ok (.aload_n 0, 1) := by decide +kernel
theorem dX13_at_1 : decode cX13_at 1 = .ok (.iconst 0, 1) := by decide +kernel
theorem dX13_at_2 : decode cX13_at 2 = .ok (.putfield 170, 3) := by decide +kernel
theorem dX13_at_5 : decode cX13_at 5 = .ok (.aload_n 0, 1) := by decide +kernel
theorem dX13_at_6 : decode cX13_at 6 = .ok (.iload_n 1, 1) := by decide +kernel
theorem dX13_at_7 : decode cX13_at 7 = .ok (.invokevirtual 216, 3) := by decide +kernel
theorem dX13_at_10 : decode cX13_at 10 = .ok (.ifCond .eq 29, 3) := by decide +kernel
theorem dX13_at_39 : decode cX13_at 39 = .ok (.iconst (-1), 1) := by decide +kernel
theorem dX13_at_40 : decode cX13_at 40 = .ok (.ireturn, 1) := by decide +kernel
theorem dX13_at_13 : decode cX13_at 13 = .ok (.iload_n 2, 1) := by decide +kernel
theorem dX13_at_14 : decode cX13_at 14 = .ok (.i2l, 1) := by decide +kernel
theorem dX13_at_15 : decode cX13_at 15 = .ok (.lconst 0, 1) := by decide +kernel
theorem dX13_at_16 : decode cX13_at 16 = .ok (.lconst 1, 1) := by decide +kernel
theorem dX13_at_17 : decode cX13_at 17 = .ok (.invokestatic 190, 3) := by decide +kernel
theorem dX13_at_20 : decode cX13_at 20 = .ok (.ifCond .eq 19, 3) := by decide +kernel
theorem dX13_at_23 : decode cX13_at 23 = .ok (.aload_n 0, 1) := by decide +kernel
theorem dX13_at_24 : decode cX13_at 24 = .ok (.getfield 13, 3) := by decide +kernel
theorem dX13_at_27 : decode cX13_at 27 = .ok (.bipush 58, 2) := by decide +kernel
theorem dX13_at_29 : decode cX13_at 29 = .ok (.iconst 2, 1) := by decide +kernel
theorem dX13_at_30 : decode cX13_at 30 = .ok (.iload_n 1, 1) := by decide +kernel
theorem dX13_at_31 : decode cX13_at 31 = .ok (.imul, 1) := by decide +kernel
theorem dX13_at_32 : decode cX13_at 32 = .ok (.iadd, 1) := by decide +kernel
theorem dX13_at_33 : decode cX13_at 33 = .ok (.iload_n 2, 1) := by decide +kernel
theorem dX13_at_34 : decode cX13_at 34 = .ok (.iadd, 1) := by decide +kernel
theorem dX13_at_35 : decode cX13_at 35 = .ok (.iaload, 1) := by decide +kernel
theorem dX13_at_36 : decode cX13_at 36 = .ok (.goto 4, 3) := by decide +kernel
end
section
theorem dX13_piece_0 : decode cX13_piece 0 = .ok (.aload_n 0, 1) := by decide +kernel
theorem dX13_piece_1 : decode cX13_piece 1 = .ok (.iconst 0, 1) := by decide +kernel
theorem dX13_piece_2 : decode cX13_piece 2 = .ok (.putfield 170, 3) := by decide +kernel
theorem dX13_piece_5 : decode cX13_piece 5 = .ok (.iload_n 1, 1) := by decide +kernel
theorem dX13_piece_6 : decode cX13_piece 6 = .ok (.i2l, 1) := by decide +kernel
theorem dX13_piece_7 : decode cX13_piece 7 = .ok (.lconst 1, 1) := by decide +kernel
theorem dX13_piece_8 : decode cX13_piece 8 = .ok (.ldc2_w 211, 3) := by decide +kernel
theorem dX13_piece_11 : decode cX13_piece 11 = .ok (.invokestatic 190, 3) := by decide +kernel
theorem dX13_piece_14 : decode cX13_piece 14 = .ok (.ifCond .eq 27, 3) := by decide +kernel
theorem dX13_piece_41 : decode cX13_piece 41 = .ok (.aload_n 0, 1) := by decide +kernel
theorem dX13_piece_42 : decode cX13_piece 42 = .ok (.iconst (-1), 1) := by decide +kernel
theorem dX13_piece_43 : decode cX13_piece 43 = .ok (.invokevirtual 183, 3) := by decide +kernel
theorem dX13_piece_46 : decode cX13_piece 46 = .ok (.ireturn, 1) := by decide +kernel
theorem dX13_piece_17 : decode cX13_piece 17 = .ok (.iload_n 2, 1) := by decide +kernel
theorem dX13_piece_18 : decode cX13_piece 18 = .ok (.i2l, 1) := by decide +kernel
theorem dX13_piece_19 : decode cX13_piece 19 = .ok (.lconst 0, 1) := by decide +kernel
theorem dX13_piece_20 : decode cX13_piece 20 = .ok (.ldc2_w 205, 3) := by decide +kernel
theorem dX13_piece_23 : decode cX13_piece 23 = .ok (.invokestatic 190, 3) := by decide +kernel
theorem dX13_piece_26 : decode cX13_piece 26 = .ok (.ifCond .eq 15, 3) := by decide +kernel
theorem dX13_piece_29 : decode cX13_piece 29 = .ok (.iload_n 3, 1) := by decide +kernel
theorem dX13_piece_30 : decode cX13_piece 30 = .ok (.i2l, 1) := by decide +kernel
theorem dX13_piece_31 : decode cX13_piece 31 = .ok (.lconst 1, 1) := by decide +kernel
theorem dX13_piece_32 : decode cX13_piece 32 = .ok (.ldc2_w 199, 3) := by decide +kernel
theorem dX13_piece_35 : decode cX13_piece 35 = .ok (.invokestatic 190, 3) := by decide +kernel
theorem dX13_piece_38 : decode cX13_piece 38 = .ok (.ifCond .ne 9, 3) := by decide +kernel
theorem dX13_piece_47 : decode cX13_piece 47 = .ok (.aload_n 0, 1) := by decide +kernel
theorem dX13_piece_48 : decode cX13_piece 48 = .ok (.getfield 13, 3) := by decide +kernel
theorem dX13_piece_51 : decode cX13_piece 51 = .ok (.iconst 2, 1) := by decide +kernel
theorem dX13_piece_52 : decode cX13_piece 52 = .ok (.iaload, 1) := by decide +kernel
theorem dX13_piece_53 : decode cX13_piece 53 = .ok (.istore 4, 2) := by decide +kernel
theorem dX13_piece_55 : decode cX13_piece 55 = .ok (.iload 4, 2) := by decide +kernel
theorem dX13_piece_57 : decode cX13_piece 57 = .ok (.bipush 10, 2) := by decide +kernel
theorem dX13_piece_59 : decode cX13_piece 59 = .ok (.if_icmp .ne 10, 3) := by decide +kernel
theorem dX13_piece_69 : decode cX13_piece 69 = .ok (.aload_n 0, 1) := by decide +kernel
theorem dX13_piece_70 : decode cX13_piece 70 = .ok (.getfield 13, 3) := by decide +kernel
theorem dX13_piece_73 : decode cX13_piece 73 = .ok (.bipush 78, 2) := by decide +kernel
theorem dX13_piece_75 : decode cX13_piece 75 = .ok (.iconst 3, 1) := by decide +kernel
theorem dX13_piece_76 : decode cX13_piece 76 = .ok (.iload 4, 2) := by decide +kernel
theorem dX13_piece_78 : decode cX13_piece 78 = .ok (.imul, 1) := by decide +kernel
theorem dX13_piece_79 : decode cX13_piece 79 = .ok (.iadd, 1) := by decide +kernel
theorem dX13_piece_80 : decode cX13_piece 80 = .ok (.iload_n 1, 1) := by decide +kernel
theorem dX13_piece_81 : decode cX13_piece 81 = .ok (.iastore, 1) := by decide +kernel
theorem dX13_piece_82 : decode cX13_piece 82 = .ok (.aload_n 0, 1) := by decide +kernel
theorem dX13_piece_83 : decode cX13_piece 83 = .ok (.getfield 13, 3) := by decide +kernel
theorem dX13_piece_86 : decode cX13_piece 86 = .ok (.bipush 78, 2) := by decide +kernel
theorem dX13_piece_88 : decode cX13_piece 88 = .ok (.iconst 3, 1) := by decide +kernel
theorem dX13_piece_89 : decode cX13_piece 89 = .ok (.iload 4, 2) := by decide +kernel
theorem dX13_piece_91 : decode cX13_piece 91 = .ok (.imul, 1) := by decide +kernel
theorem dX13_piece_92 : decode cX13_piece 92 = .ok (.iadd, 1) := by decide +kernel
theorem dX13_piece_93 : decode cX13_piece 93 = .ok (.iconst 1, 1) := by decide +kernel
theorem dX13_piece_94 : decode cX13_piece 94 = .ok (.iadd, 1) := by decide +kernel
theorem dX13_piece_95 : decode cX13_piece 95 = .ok (.iload_n 2, 1) := by decide +kernel
theorem dX13_piece_96 : decode cX13_piece 96 = .ok (.iastore, 1) := by decide +kernel
theorem dX13_piece_97 : decode cX13_piece 97 = .ok (.aload_n 0, 1) := by decide +kernel
theorem dX13_piece_98 : decode cX13_piece 98 = .ok (.getfield 13, 3) := by decide +kernel
theorem dX13_piece_101 : decode cX13_piece 101 = .ok (.bipush 78, 2) := by decide +kernel
theorem dX13_piece_103 : decode cX13_piece 103 = .ok (.iconst 3, 1) := by decide +kernel
theorem dX13_piece_104 : decode cX13_piece 104 = .ok (.iload 4, 2) := by decide +kernel
theorem dX13_piece_106 : decode cX13_piece 106 = .ok (.imul, 1) := by decide +kernel
theorem dX13_piece_107 : decode cX13_piece 107 = .ok (.iadd, 1) := by decide +kernel
theorem dX13_piece_108 : decode cX13_piece 108 = .ok (.iconst 2, 1) := by decide +kernel
theorem dX13_piece_109 : decode cX13_piece 109 = .ok (.iadd, 1) := by decide +kernel
theorem dX13_piece_110 : decode cX13_piece 110 = .ok (.iload_n 3, 1) := by decide +kernel
theorem dX13_piece_111 : decode cX13_piece 111 = .ok (.iastore, 1) := by decide +kernel
theorem dX13_piece_112 : decode cX13_piece 112 = .ok (.aload_n 0, 1) := by decide +kernel
theorem dX13_piece_113 : decode cX13_piece 113 = .ok (.getfield 13, 3) := by decide +kernel
theorem dX13_piece_116 : decode cX13_piece 116 = .ok (.iconst 2, 1) := by decide +kernel
theorem dX13_piece_117 : decode cX13_piece 117 = .ok (.dup2, 1) := by decide +kernel
theorem dX13_piece_118 : decode cX13_piece 118 = .ok (.iaload, 1) := by decide +kernel
theorem dX13_piece_119 : decode cX13_piece 119 = .ok (.iconst 1, 1) := by decide +kernel
theorem dX13_piece_120 : decode cX13_piece 120 = .ok (.iadd, 1) := by decide +kernel
theorem dX13_piece_121 : decode cX13_piece 121 = .ok (.iastore, 1) := by decide +kernel
theorem dX13_piece_122 : decode cX13_piece 122 = .ok (.aload_n 0, 1) := by decide +kernel
theorem dX13_piece_123 : decode cX13_piece 123 = .ok (.iload 4, 2) := by decide +kernel
theorem dX13_piece_125 : decode cX13_piece 125 = .ok (.invokevirtual 183, 3) := by decide +kernel
theorem dX13_piece_128 : decode cX13_piece 128 = .ok (.ireturn, 1) := by decide +kernel
theorem dX13_piece_62 : decode cX13_piece 62 = .ok (.aload_n 0, 1) := by decide +kernel
theorem dX13_piece_63 : decode cX13_piece 63 = .ok (.bipush (-5), 2) := by decide +kernel
theorem dX13_piece_65 : decode cX13_piece 65 = .ok (.invokevirtual 183, 3) := by decide +kernel
theorem dX13_piece_68 : decode cX13_piece 68 = .ok (.ireturn, 1) := by decide +kernel
end
