theorem hd_yX13_readExpression : yX13_readExpression.cls ≠ "java/lang/invoke/MethodHandle" ∧ yX13_readExpression.cls ≠ "java/lang/invoke/VarHandle" ∧ (parseMethodDescriptor yX13_readExpression.desc).map (fun d => d.parameters.length) = some 1 := by decide +kernel
theorem dX13_readLaw_0 : decode cX13_readLaw 0 = .ok (.iconst (-1), 1) := by decide +kernel
theorem dX13_readLaw_1 : decode cX13_readLaw 1 = .ok (.istore_n 1, 1) := by decide +kernel
theorem dX13_readLaw_2 : decode cX13_readLaw 2 = .ok (.iconst 0, 1) := by decide +kernel
theorem dX13_readLaw_3 : decode cX13_readLaw 3 = .ok (.istore_n 2, 1) := by decide +kernel
theorem dX13_readLaw_4 : decode cX13_readLaw 4 = .ok (.iload_n 2, 1) := by decide +kernel
theorem dX13_readLaw_5 : decode cX13_readLaw 5 = .ok (.iconst 4, 1) := by decide +kernel
theorem dX13_readLaw_6 : decode cX13_readLaw 6 = .ok (.if_icmp .ge 28, 3) := by decide +kernel
theorem dX13_readLaw_34 : decode cX13_readLaw 34 = .ok (.aload_n 0, 1) := by decide +kernel
theorem dX13_readLaw_35 : decode cX13_readLaw 35 = .ok (.iload_n 1, 1) := by decide +kernel
theorem dX13_readLaw_36 : decode cX13_readLaw 36 = .ok (.iconst (-1), 1) := by decide +kernel
theorem dX13_readLaw_37 : decode cX13_readLaw 37 = .ok (.if_icmp .eq 16, 3) := by decide +kernel
theorem dX13_readLaw_53 : decode cX13_readLaw 53 = .ok (.iconst 0, 1) := by decide +kernel
theorem dX13_readLaw_54 : decode cX13_readLaw 54 = .ok (.invokevirtual 271, 3) := by decide +kernel
theorem dX13_readLaw_57 : decode cX13_readLaw 57 = .ok (.aload_n 0, 1) := by decide +kernel
theorem dX13_readLaw_58 : decode cX13_readLaw 58 = .ok (.getfield 236, 3) := by decide +kernel
theorem dX13_readLaw_61 : decode cX13_readLaw 61 = .ok (.ifCond .eq 4, 3) := by decide +kernel
theorem dX13_readLaw_64 : decode cX13_readLaw 64 = .ok (.return_, 1) := by decide +kernel
theorem dX13_readLaw_40 : decode cX13_readLaw 40 = .ok (.aload_n 0, 1) := by decide +kernel
theorem dX13_readLaw_41 : decode cX13_readLaw 41 = .ok (.getfield 369, 3) := by decide +kernel
theorem dX13_readLaw_44 : decode cX13_readLaw 44 = .ok (.bipush 12, 2) := by decide +kernel
theorem dX13_readLaw_46 : decode cX13_readLaw 46 = .ok (.if_icmp .ge 7, 3) := by decide +kernel
theorem dX13_readLaw_49 : decode cX13_readLaw 49 = .ok (.iconst 1, 1) := by decide +kernel
theorem dX13_readLaw_50 : decode cX13_readLaw 50 = .ok (.goto 4, 3) := by decide +kernel
theorem dX13_readLaw_65 : decode cX13_readLaw 65 = .ok (.bipush 8, 2) := by decide +kernel
theorem dX13_readLaw_67 : decode cX13_readLaw 67 = .ok (.aload_n 0, 1) := by decide +kernel
theorem dX13_readLaw_68 : decode cX13_readLaw 68 = .ok (.getfield 369, 3) := by decide +kernel
theorem dX13_readLaw_71 : decode cX13_readLaw 71 = .ok (.imul, 1) := by decide +kernel
theorem dX13_readLaw_72 : decode cX13_readLaw 72 = .ok (.istore_n 2, 1) := by decide +kernel
theorem dX13_readLaw_73 : decode cX13_readLaw 73 = .ok (.iconst 0, 1) := by decide +kernel
theorem dX13_readLaw_74 : decode cX13_readLaw 74 = .ok (.istore_n 3, 1) := by decide +kernel
theorem dX13_readLaw_75 : decode cX13_readLaw 75 = .ok (.iload_n 3, 1) := by decide +kernel
theorem dX13_readLaw_76 : decode cX13_readLaw 76 = .ok (.bipush 8, 2) := by decide +kernel
theorem dX13_readLaw_78 : decode cX13_readLaw 78 = .ok (.if_icmp .ge 18, 3) := by decide +kernel
theorem dX13_readLaw_96 : decode cX13_readLaw 96 = .ok (.aload_n 0, 1) := by decide +kernel
theorem dX13_readLaw_97 : decode cX13_readLaw 97 = .ok (.getfield 42, 3) := by decide +kernel
theorem dX13_readLaw_100 : decode cX13_readLaw 100 = .ok (.iload_n 2, 1) := by decide +kernel
theorem dX13_readLaw_101 : decode cX13_readLaw 101 = .ok (.iload_n 1, 1) := by decide +kernel
theorem dX13_readLaw_102 : decode cX13_readLaw 102 = .ok (.iastore, 1) := by decide +kernel
theorem dX13_readLaw_103 : decode cX13_readLaw 103 = .ok (.aload_n 0, 1) := by decide +kernel
theorem dX13_readLaw_104 : decode cX13_readLaw 104 = .ok (.dup, 1) := by decide +kernel
theorem dX13_readLaw_105 : decode cX13_readLaw 105 = .ok (.getfield 369, 3) := by decide +kernel
theorem dX13_readLaw_108 : decode cX13_readLaw 108 = .ok (.iconst 1, 1) := by decide +kernel
theorem dX13_readLaw_109 : decode cX13_readLaw 109 = .ok (.iadd, 1) := by decide +kernel
theorem dX13_readLaw_110 : decode cX13_readLaw 110 = .ok (.putfield 369, 3) := by decide +kernel
theorem dX13_readLaw_113 : decode cX13_readLaw 113 = .ok (.aload_n 0, 1) := by decide +kernel
theorem dX13_readLaw_114 : decode cX13_readLaw 114 = .ok (.getfield 42, 3) := by decide +kernel
theorem dX13_readLaw_117 : decode cX13_readLaw 117 = .ok (.iload_n 2, 1) := by decide +kernel
theorem dX13_readLaw_118 : decode cX13_readLaw 118 = .ok (.iconst 3, 1) := by decide +kernel
theorem dX13_readLaw_119 : decode cX13_readLaw 119 = .ok (.iadd, 1) := by decide +kernel
theorem dX13_readLaw_120 : decode cX13_readLaw 120 = .ok (.aload_n 0, 1) := by decide +kernel
theorem dX13_readLaw_121 : decode cX13_readLaw 121 = .ok (.getfield 275, 3) := by decide +kernel
theorem dX13_readLaw_124 : decode cX13_readLaw 124 = .ok (.iastore, 1) := by decide +kernel
theorem dX13_readLaw_125 : decode cX13_readLaw 125 = .ok (.iload_n 1, 1) := by decide +kernel
theorem dX13_readLaw_126 : decode cX13_readLaw 126 = .ok (.iconst 3, 1) := by decide +kernel
theorem dX13_readLaw_127 : decode cX13_readLaw 127 = .ok (.if_icmp .eq 8, 3) := by decide +kernel
theorem dX13_readLaw_135 : decode cX13_readLaw 135 = .ok (.aload_n 0, 1) := by decide +kernel
theorem dX13_readLaw_136 : decode cX13_readLaw 136 = .ok (.getfield 42, 3) := by decide +kernel
theorem dX13_readLaw_139 : decode cX13_readLaw 139 = .ok (.iload_n 2, 1) := by decide +kernel
theorem dX13_readLaw_140 : decode cX13_readLaw 140 = .ok (.iconst 4, 1) := by decide +kernel
theorem dX13_readLaw_141 : decode cX13_readLaw 141 = .ok (.iadd, 1) := by decide +kernel
theorem dX13_readLaw_142 : decode cX13_readLaw 142 = .ok (.aload_n 0, 1) := by decide +kernel
theorem dX13_readLaw_143 : decode cX13_readLaw 143 = .ok (.getfield 275, 3) := by decide +kernel
theorem dX13_readLaw_146 : decode cX13_readLaw 146 = .ok (.iastore, 1) := by decide +kernel
theorem dX13_readLaw_147 : decode cX13_readLaw 147 = .ok (.aload_n 0, 1) := by decide +kernel
theorem dX13_readLaw_148 : decode cX13_readLaw 148 = .ok (.getfield 42, 3) := by decide +kernel
theorem dX13_readLaw_151 : decode cX13_readLaw 151 = .ok (.iload_n 2, 1) := by decide +kernel
theorem dX13_readLaw_152 : decode cX13_readLaw 152 = .ok (.iconst 5, 1) := by decide +kernel
theorem dX13_readLaw_153 : decode cX13_readLaw 153 = .ok (.iadd, 1) := by decide +kernel
theorem dX13_readLaw_154 : decode cX13_readLaw 154 = .ok (.aload_n 0, 1) := by decide +kernel
theorem dX13_readLaw_155 : decode cX13_readLaw 155 = .ok (.getfield 275, 3) := by decide +kernel
theorem dX13_readLaw_158 : decode cX13_readLaw 158 = .ok (.iastore, 1) := by decide +kernel
theorem dX13_readLaw_159 : decode cX13_readLaw 159 = .ok (.aload_n 0, 1) := by decide +kernel
theorem dX13_readLaw_160 : decode cX13_readLaw 160 = .ok (.getfield 236, 3) := by decide +kernel
theorem dX13_readLaw_163 : decode cX13_readLaw 163 = .ok (.ifCond .ne 22, 3) := by decide +kernel
theorem dX13_readLaw_166 : decode cX13_readLaw 166 = .ok (.aload_n 0, 1) := by decide +kernel
theorem dX13_readLaw_167 : decode cX13_readLaw 167 = .ok (.ldc2_w 375, 3) := by decide +kernel
theorem dX13_readLaw_170 : decode cX13_readLaw 170 = .ok (.invokevirtual 296, 3) := by decide +kernel
theorem dX13_readLaw_173 : decode cX13_readLaw 173 = .ok (.ifCond .eq 12, 3) := by decide +kernel
theorem dX13_readLaw_185 : decode cX13_readLaw 185 = .ok (.aload_n 0, 1) := by decide +kernel
theorem dX13_readLaw_186 : decode cX13_readLaw 186 = .ok (.getfield 42, 3) := by decide +kernel
theorem dX13_readLaw_189 : decode cX13_readLaw 189 = .ok (.iload_n 2, 1) := by decide +kernel
theorem dX13_readLaw_190 : decode cX13_readLaw 190 = .ok (.bipush 6, 2) := by decide +kernel
theorem dX13_readLaw_192 : decode cX13_readLaw 192 = .ok (.iadd, 1) := by decide +kernel
theorem dX13_readLaw_193 : decode cX13_readLaw 193 = .ok (.aload_n 0, 1) := by decide +kernel
theorem dX13_readLaw_194 : decode cX13_readLaw 194 = .ok (.getfield 275, 3) := by decide +kernel
theorem dX13_readLaw_197 : decode cX13_readLaw 197 = .ok (.iastore, 1) := by decide +kernel
theorem dX13_readLaw_198 : decode cX13_readLaw 198 = .ok (.return_, 1) := by decide +kernel
theorem dX13_readLaw_176 : decode cX13_readLaw 176 = .ok (.aload_n 0, 1) := by decide +kernel
theorem dX13_readLaw_177 : decode cX13_readLaw 177 = .ok (.invokevirtual 240, 3) := by decide +kernel
theorem dX13_readLaw_180 : decode cX13_readLaw 180 = .ok (.aload_n 0, 1) := by decide +kernel
theorem dX13_readLaw_181 : decode cX13_readLaw 181 = .ok (.iconst 1, 1) := by decide +kernel
theorem dX13_readLaw_182 : decode cX13_readLaw 182 = .ok (.invokevirtual 372, 3) := by decide +kernel
theorem dX13_readLaw_130 : decode cX13_readLaw 130 = .ok (.aload_n 0, 1) := by decide +kernel
theorem dX13_readLaw_131 : decode cX13_readLaw 131 = .ok (.iconst 0, 1) := by decide +kernel
theorem dX13_readLaw_132 : decode cX13_readLaw 132 = .ok (.invokevirtual 372, 3) := by decide +kernel
theorem dX13_readLaw_81 : decode cX13_readLaw 81 = .ok (.aload_n 0, 1) := by decide +kernel
theorem dX13_readLaw_82 : decode cX13_readLaw 82 = .ok (.getfield 42, 3) := by decide +kernel
theorem dX13_readLaw_85 : decode cX13_readLaw 85 = .ok (.iload_n 2, 1) := by decide +kernel
theorem dX13_readLaw_86 : decode cX13_readLaw 86 = .ok (.iload_n 3, 1) := by decide +kernel
theorem dX13_readLaw_87 : decode cX13_readLaw 87 = .ok (.iadd, 1) := by decide +kernel
theorem dX13_readLaw_88 : decode cX13_readLaw 88 = .ok (.iconst 0, 1) := by decide +kernel
theorem dX13_readLaw_89 : decode cX13_readLaw 89 = .ok (.iastore, 1) := by decide +kernel
theorem dX13_readLaw_90 : decode cX13_readLaw 90 = .ok (.iinc 3 1, 3) := by decide +kernel
theorem dX13_readLaw_93 : decode cX13_readLaw 93 = .ok (.goto (-18), 3) := by decide +kernel
theorem dX13_readLaw_9 : decode cX13_readLaw 9 = .ok (.aload_n 0, 1) := by decide +kernel
theorem dX13_readLaw_10 : decode cX13_readLaw 10 = .ok (.aload_n 0, 1) := by decide +kernel
theorem dX13_readLaw_11 : decode cX13_readLaw 11 = .ok (.getfield 98, 3) := by decide +kernel
theorem dX13_readLaw_14 : decode cX13_readLaw 14 = .ok (.iload_n 2, 1) := by decide +kernel
theorem dX13_readLaw_15 : decode cX13_readLaw 15 = .ok (.laload, 1) := by decide +kernel
theorem dX13_readLaw_16 : decode cX13_readLaw 16 = .ok (.invokevirtual 296, 3) := by decide +kernel
theorem dX13_readLaw_19 : decode cX13_readLaw 19 = .ok (.ifCond .eq 7, 3) := by decide +kernel
theorem dX13_readLaw_26 : decode cX13_readLaw 26 = .ok (.iload_n 1, 1) := by decide +kernel
theorem dX13_readLaw_27 : decode cX13_readLaw 27 = .ok (.istore_n 1, 1) := by decide +kernel
theorem dX13_readLaw_28 : decode cX13_readLaw 28 = .ok (.iinc 2 1, 3) := by decide +kernel
theorem dX13_readLaw_31 : decode cX13_readLaw 31 = .ok (.goto (-27), 3) := by decide +kernel
theorem dX13_readLaw_22 : decode cX13_readLaw 22 = .ok (.iload_n 2, 1) := by decide +kernel
theorem dX13_readLaw_23 : decode cX13_readLaw 23 = .ok (.goto 4, 3) := by decide +kernel
set_option maxHeartbeats 4000000 in
set_option maxRecDepth 100000 in
theorem k_X13_readLaw (l : Launch) (D : va_G) (cy : Nat → ClassId) (ld ad : Nat → Nat) (am : Nat) (hD : mz_D ad am) (Fa : Nat → Int32) (Ga : Nat → Int64) (Ra : Nat → Nat → Int32) (Sa : Nat → Nat → Int64) (gf : Int32) (gt : Int32) (gs : Int32) (gp : Int32) (gw : Int64) (gb : Int32) (gc : Int32) (gn : Int32) (hIF : mz_IF false Fa) (hIG : mz_IG Ga) (hIR : mz_IR [] true Ra) (hg_0 : Fa 14 = gf) (hg_1 : Fa 15 = gt) (hg_2 : Fa 16 = gs) (hg_3 : Fa 13 = gp) (hg_4 : Ga 17 = gw) (hg_5 : Fa 19 = gb) (hg_6 : Fa 23 = gc) (hg_7 : Fa 21 = gn) (hp_0 : 0 ≤ (-1) * gf.toInt + gt.toInt) (hp_1 : 0 ≤ gp.toInt + (-1) * gt.toInt) (hp_2 : (1 ≤ gs.toInt → 0 ≤ (-1) * gf.toInt + gt.toInt + (-1))) (hp_3 : (27 ≤ gw.toInt → 1 ≤ gs.toInt → gs.toInt ≤ 1 → 0 ≤ (-1) * gf.toInt + gt.toInt + (-2))) (hp_4 : 0 ≤ (-1) * gc.toInt + gf.toInt) (hp_5 : gb.toInt ≤ 0) (hx_0 : CLS 8 [3, 5] (Ra 24) (Ra 25) (Ra 22) gc.toInt gn.toInt) : Met l yX13_readLaw (wl yX13_readLaw cX13_readLaw 4 none) ({ frames := 10, cells := 0, slots := 0, locals := 630 }) (mz_p D cy ld ad am Fa Ga Ra Sa [.ref am]) (mz_w D cy ad am (fun F G R S => mz_IF false F ∧ mz_IG G ∧ mz_IR [] true R ∧ (∀ k : Nat, k ∉ ([14, 15, 16, 18, 19, 21, 23, 26, 29, 30] : List Nat) → F k = Fa k) ∧ (∀ k : Nat, k ∉ ([22, 24, 25, 27, 28] : List Nat) → R k = Ra k) ∧ (∀ k : Nat, k ∉ ([17] : List Nat) → G k = Ga k) ∧ 0 ≤ (-1) * (F 14).toInt + (F 15).toInt ∧ 0 ≤ gp.toInt + (-1) * (F 15).toInt ∧ (1 ≤ (F 16).toInt → 0 ≤ (-1) * (F 14).toInt + (F 15).toInt + (-1)) ∧ (27 ≤ (G 17).toInt → 1 ≤ (F 16).toInt → (F 16).toInt ≤ 1 → 0 ≤ (-1) * (F 14).toInt + (F 15).toInt + (-2)) ∧ 0 ≤ (-1) * gf.toInt + (F 14).toInt ∧ 0 ≤ (-1) * gc.toInt + (F 23).toInt ∧ 0 ≤ (-1) * (F 23).toInt + (F 14).toInt ∧ 0 ≤ (-1) * gb.toInt + (F 19).toInt ∧ ((F 19).toInt ≤ 0 → 0 ≤ (-1) * gf.toInt + (F 14).toInt + (-1)) ∧ ((F 19).toInt = 0 → CLS 8 [3, 5] (R 24) (R 25) (R 22) (F 23).toInt (F 21).toInt))) 0 0 (mz_W ad am) := by
  refine mz_met (y := yX13_readLaw) (cc := cX13_readLaw) (maxL := 4) (ret := none) (av := [.ref am]) _ (by decide) (Nat.le_of_ble_eq_true rfl) ?_
  intro p e s m args below meth c hx hb hr hml hts htl hown hlocks hK H locs hM hS ls hl
  have hown : s.vm.findClass RX13 = some m.cls := hown
  have hl : lv_has ls 4 [(0, .ref am)] := hl
  have hq_gf := tk_rng gf
  have hq_gt := tk_rng gt
  have hq_gs := tk_rng gs
  have hq_gp := tk_rng gp
  have hq_gw := tk_rngL gw
  have hq_gb := tk_rng gb
  have hq_gc := tk_rng gc
  have hq_gn := tk_rng gn
  have hr_gf : 0 ≤ gf.toInt ∧ gf.toInt ≤ 400 := hIF.at hg_0
  have hr_gt : 0 ≤ gt.toInt ∧ gt.toInt ≤ 400 := hIF.at hg_1
  have hr_gs : 0 ≤ gs.toInt ∧ gs.toInt ≤ 3 := hIF.at hg_2
  have hr_gp : 0 ≤ gp.toInt ∧ gp.toInt ≤ 400 := hIF.at hg_3
  have hr_gb : 0 ≤ gb.toInt ∧ gb.toInt ≤ 1 := hIF.at hg_5
  have hr_gc : 0 ≤ gc.toInt ∧ gc.toInt ≤ 400 := hIF.at hg_6
  have hr_gn : 0 ≤ gn.toInt ∧ gn.toInt ≤ 12 := hIF.at hg_7
  have hL22 := low.refl (8 * gn.toInt.toNat) (Ra 22)
  have hC : gb.toInt = 0 → CLS 8 [3, 5] (Ra 24) (Ra 25) (Ra 22) gc.toInt gn.toInt := fun _ => hx_0
  refine lv_iconst (v := (-1)) hx hb dX13_readLaw_0 (by decide) ?_
  refine lv_istore_n (lv' := [(1, .int (-1)), (0, .ref am)]) hx hb dX13_readLaw_1 rfl hl (by decide) rfl (fun ls hl => ?_)
  refine lv_iconst (v := 0) hx hb dX13_readLaw_2 (by decide) ?_
  refine lv_istore_n (lv' := [(2, .int 0), (1, .int (-1)), (0, .ref am)]) hx hb dX13_readLaw_3 rfl hl (by decide) rfl (fun ls hl => ?_)
  have hl8129 : ∀ (N_l8129 : Nat) (v1066 : Int32) (v1067 : Int32) (H : Heap) (locs : List Loc), (v1066.toInt ≤ 4) → (0 ≤ v1066.toInt + (-1) * v1067.toInt + (-1)) → ((-1) ≤ v1067.toInt) → (mz_S D cy ad am Fa Ga Ra Sa H) → (va_S (mz_W ad am) s.heap H locs) → ((0 ≤ v1067.toInt → gs.toInt + (-1) = 0)) → ((-1) * v1066.toInt + 4 < (N_l8129 : Int)) → ∀ ls : Array Slot, lv_has ls 4 [(2, .int v1066), (1, .int v1067), (0, .ref am)] → W p l e ({ frames := 10, cells := 0, slots := 0, locals := 630 }) s m args below meth c H locs 0 0 (MQ below (mz_w D cy ad am (fun F G R S => mz_IF false F ∧ mz_IG G ∧ mz_IR [] true R ∧ (∀ k : Nat, k ∉ ([14, 15, 16, 18, 19, 21, 23, 26, 29, 30] : List Nat) → F k = Fa k) ∧ (∀ k : Nat, k ∉ ([22, 24, 25, 27, 28] : List Nat) → R k = Ra k) ∧ (∀ k : Nat, k ∉ ([17] : List Nat) → G k = Ga k) ∧ 0 ≤ (-1) * (F 14).toInt + (F 15).toInt ∧ 0 ≤ gp.toInt + (-1) * (F 15).toInt ∧ (1 ≤ (F 16).toInt → 0 ≤ (-1) * (F 14).toInt + (F 15).toInt + (-1)) ∧ (27 ≤ (G 17).toInt → 1 ≤ (F 16).toInt → (F 16).toInt ≤ 1 → 0 ≤ (-1) * (F 14).toInt + (F 15).toInt + (-2)) ∧ 0 ≤ (-1) * gf.toInt + (F 14).toInt ∧ 0 ≤ (-1) * gc.toInt + (F 23).toInt ∧ 0 ≤ (-1) * (F 23).toInt + (F 14).toInt ∧ 0 ≤ (-1) * gb.toInt + (F 19).toInt ∧ ((F 19).toInt ≤ 0 → 0 ≤ (-1) * gf.toInt + (F 14).toInt + (-1)) ∧ ((F 19).toInt = 0 → CLS 8 [3, 5] (R 24) (R 25) (R 22) (F 23).toInt (F 21).toInt))) args s 0 0 (mz_W ad am)) (F0 m 4 ls []) := by
    intro N_l8129
    induction N_l8129 with
    | zero => intro v1066 v1067 H locs hq0_l8129 hq1_l8129 hq2_l8129 hM hS hc0_l8129 hm_l8129 ls hl; exfalso; omega
    | succ N_l8129 ih_l8129 =>
      intro v1066 v1067 H locs hq0_l8129 hq1_l8129 hq2_l8129 hM hS hc0_l8129 hm_l8129 ls hl
      refine lv_iload_n hx hb dX13_readLaw_4 rfl (lv_at hl 0 rfl) ?_
      refine lv_iconst (v := 4) hx hb dX13_readLaw_5 (by decide) ?_
      refine lv_icmp_ge (tgt := 34) hx hb dX13_readLaw_6 (by decide) (fun c9 => ?_) (fun c9 => ?_)
      · have hc8130 : 4 ≤ v1066.toInt := (fi_le (show (4 : Int32).toInt = 4 by decide) rfl).mp c9
        refine lv_aload_n hx hb dX13_readLaw_34 rfl (lv_at hl 2 rfl) ?_
        refine lv_iload_n hx hb dX13_readLaw_35 rfl (lv_at hl 1 rfl) ?_
        refine lv_iconst (v := (-1)) hx hb dX13_readLaw_36 (by decide) ?_
        refine lv_icmp_eq (tgt := 53) hx hb dX13_readLaw_37 (by decide) (fun c9 => ?_) (fun c9 => ?_)
        · have hc8131 : v1067.toInt = (-1) := (fi_eq rfl (show ((-1) : Int32).toInt = (-1) by decide)).mp c9
          refine lv_iconst (v := 0) hx hb dX13_readLaw_53 (by decide) ?_
          have hk_0 : (0 : Int32).toInt = 0 := by decide
          refine mz_Vv (As := [.int 0]) (rest := []) ⟨hx, hb, hml, hown, hts⟩ hK hM hS (k_X13_must l D cy ld ad am hD _ _ _ _ 0 gf gt gs gp gw gb hIF hIG hIR hg_0 hg_1 hg_2 hg_3 hg_4 hg_5 (by omega) (by omega) (by omega) (by omega) (by omega) (by omega)) ⟨callB_of 1 hts (wl_in mw_713) rfl rfl rfl (htl _ mw_5) (htl _ mw_710) hd_yX13_must ⟨(Nat.le_of_ble_eq_true rfl), (Nat.le_of_ble_eq_true rfl)⟩, htl _ mw_711, htl _ mw_712⟩ rfl hl.1 rfl (Nat.le_of_ble_eq_true rfl) dX13_readLaw_54 ⟨(Nat.le_of_ble_eq_true rfl), (Nat.le_of_ble_eq_true rfl)⟩ (fun H locs F G R S hpo hM hS => ?_)
          obtain ⟨hIF, hIG, hIR, hfr9, hrr9, hgr9, hpo8132, hpo8133, hpo8134, hpo8135, hpo8136, hpo8137, hpo8138, hpo8139⟩ := hpo
          have hFF := mz_fr (K := [14, 15, 16, 18, 19, 21, 23, 26, 29, 30]) (Fa := Fa) hfr9 (fun _ _ => rfl) (by decide)
          have hRR := mz_fr (K := [22, 24, 25, 27, 28]) (Fa := Ra) hrr9 (fun _ _ => rfl) (by decide)
          have hGG := mz_fr (K := [17]) (Fa := Ga) hgr9 (fun _ _ => rfl) (by decide)
          have hg_3 := (hfr9 13 (by decide)).trans hg_3
          have hg_6 := (hfr9 23 (by decide)).trans hg_6
          have hg_7 := (hfr9 21 (by decide)).trans hg_7
          obtain ⟨v8142, hf8141⟩ : ∃ z : Int32, F 14 = z := ⟨_, rfl⟩
          have hq_v8142 := tk_rng v8142
          rw [hf8141] at hpo8132 hpo8134 hpo8135 hpo8136 hpo8138
          have hr_v8142 : 0 ≤ v8142.toInt ∧ v8142.toInt ≤ 400 := hIF.at hf8141
          obtain ⟨v8144, hf8143⟩ : ∃ z : Int32, F 15 = z := ⟨_, rfl⟩
          have hq_v8144 := tk_rng v8144
          rw [hf8143] at hpo8132 hpo8133 hpo8134 hpo8135
          have hr_v8144 : 0 ≤ v8144.toInt ∧ v8144.toInt ≤ 400 := hIF.at hf8143
          obtain ⟨v8146, hf8145⟩ : ∃ z : Int32, F 16 = z := ⟨_, rfl⟩
          have hq_v8146 := tk_rng v8146
          rw [hf8145] at hpo8134 hpo8135
          have hr_v8146 : 0 ≤ v8146.toInt ∧ v8146.toInt ≤ 3 := hIF.at hf8145
          obtain ⟨w8148, hf8147⟩ : ∃ z : Int64, G 17 = z := ⟨_, rfl⟩
          have hq_w8148 := tk_rngL w8148
          rw [hf8147] at hpo8135
          obtain ⟨v8150, hf8149⟩ : ∃ z : Int32, F 19 = z := ⟨_, rfl⟩
          have hq_v8150 := tk_rng v8150
          rw [hf8149] at hpo8137 hpo8138 hpo8139
          have hr_v8150 : 0 ≤ v8150.toInt ∧ v8150.toInt ≤ 1 := hIF.at hf8149
          have hL22 := hL22.to (hrr9 22 (by decide))
          have hC9 := hC
          have hC : v8150.toInt = 0 → CLS 8 [3, 5] (R 24) (R 25) (Ra 22) gc.toInt gn.toInt := fun h9 => (hC9 (by omega)).to (hrr9 24 (by decide)) (hrr9 25 (by decide))
          refine lv_aload_n hx hb dX13_readLaw_57 rfl (lv_at hl 2 rfl) ?_
          refine mz_getI hx hb htl hown hK hM 19 (Nat.le_of_ble_eq_true rfl) rfl (htl _ mw_668) (fun _ h9 => h9) dX13_readLaw_58 (fun v9 e9 => ?_)
          refine fx_ti (v := v8150) (e9.symm.trans hf8149) ?_
          refine lv_if_eq (tgt := 65) hx hb dX13_readLaw_61 (by decide) (fun c9 => ?_) (fun c9 => ?_)
          · have hc8151 : v8150.toInt = 0 := (fi_eq rfl (show (0 : Int32).toInt = 0 by decide)).mp c9
            exfalso
            omega
          · have hc8151 : ¬ (v8150.toInt = 0) := fun h9 => c9 ((fi_eq rfl (show (0 : Int32).toInt = 0 by decide)).mpr h9)
            exact mz_vret hx hb hr hlocks ⟨hIF, hIG, hIR, hFF, hRR, hGG, (by rw [hf8141, hf8143]; omega), (by rw [hf8143]; omega), (by rw [hf8141, hf8143, hf8145]; omega), (by rw [hf8141, hf8143, hf8145, hf8147]; omega), (by rw [hf8141]; omega), (by rw [hg_6]; omega), (by rw [hf8141, hg_6]; omega), (by rw [hf8149]; omega), (by rw [hf8141, hf8149]; omega), (by rw [hf8149]; exact fun h9 => absurd h9 (by omega))⟩ hM hS dX13_readLaw_64
        · have hc8131 : ¬ (v1067.toInt = (-1)) := fun h9 => c9 ((fi_eq rfl (show ((-1) : Int32).toInt = (-1) by decide)).mpr h9)
          refine lv_aload_n hx hb dX13_readLaw_40 rfl (lv_at hl 2 rfl) ?_
          refine mz_getI hx hb htl hown hK hM 21 (Nat.le_of_ble_eq_true rfl) rfl (htl _ mw_669) (fun _ h9 => h9) dX13_readLaw_41 (fun v9 e9 => ?_)
          refine fx_ti (v := gn) (e9.symm.trans hg_7) ?_
          refine lv_bipush (v := 12) hx hb dX13_readLaw_44 (by decide) ?_
          refine lv_icmp_ge (tgt := 53) hx hb dX13_readLaw_46 (by decide) (fun c9 => ?_) (fun c9 => ?_)
          · have hc8152 : 12 ≤ gn.toInt := (fi_le (show (12 : Int32).toInt = 12 by decide) rfl).mp c9
            refine lv_iconst (v := 0) hx hb dX13_readLaw_53 (by decide) ?_
            have hk_0 : (0 : Int32).toInt = 0 := by decide
            refine mz_Vv (As := [.int 0]) (rest := []) ⟨hx, hb, hml, hown, hts⟩ hK hM hS (k_X13_must l D cy ld ad am hD _ _ _ _ 0 gf gt gs gp gw gb hIF hIG hIR hg_0 hg_1 hg_2 hg_3 hg_4 hg_5 (by omega) (by omega) (by omega) (by omega) (by omega) (by omega)) ⟨callB_of 1 hts (wl_in mw_713) rfl rfl rfl (htl _ mw_5) (htl _ mw_710) hd_yX13_must ⟨(Nat.le_of_ble_eq_true rfl), (Nat.le_of_ble_eq_true rfl)⟩, htl _ mw_711, htl _ mw_712⟩ rfl hl.1 rfl (Nat.le_of_ble_eq_true rfl) dX13_readLaw_54 ⟨(Nat.le_of_ble_eq_true rfl), (Nat.le_of_ble_eq_true rfl)⟩ (fun H locs F G R S hpo hM hS => ?_)
            obtain ⟨hIF, hIG, hIR, hfr9, hrr9, hgr9, hpo8153, hpo8154, hpo8155, hpo8156, hpo8157, hpo8158, hpo8159, hpo8160⟩ := hpo
            have hFF := mz_fr (K := [14, 15, 16, 18, 19, 21, 23, 26, 29, 30]) (Fa := Fa) hfr9 (fun _ _ => rfl) (by decide)
            have hRR := mz_fr (K := [22, 24, 25, 27, 28]) (Fa := Ra) hrr9 (fun _ _ => rfl) (by decide)
            have hGG := mz_fr (K := [17]) (Fa := Ga) hgr9 (fun _ _ => rfl) (by decide)
            have hg_3 := (hfr9 13 (by decide)).trans hg_3
            have hg_6 := (hfr9 23 (by decide)).trans hg_6
            have hg_7 := (hfr9 21 (by decide)).trans hg_7
            obtain ⟨v8163, hf8162⟩ : ∃ z : Int32, F 14 = z := ⟨_, rfl⟩
            have hq_v8163 := tk_rng v8163
            rw [hf8162] at hpo8153 hpo8155 hpo8156 hpo8157 hpo8159
            have hr_v8163 : 0 ≤ v8163.toInt ∧ v8163.toInt ≤ 400 := hIF.at hf8162
            obtain ⟨v8165, hf8164⟩ : ∃ z : Int32, F 15 = z := ⟨_, rfl⟩
            have hq_v8165 := tk_rng v8165
            rw [hf8164] at hpo8153 hpo8154 hpo8155 hpo8156
            have hr_v8165 : 0 ≤ v8165.toInt ∧ v8165.toInt ≤ 400 := hIF.at hf8164
            obtain ⟨v8167, hf8166⟩ : ∃ z : Int32, F 16 = z := ⟨_, rfl⟩
            have hq_v8167 := tk_rng v8167
            rw [hf8166] at hpo8155 hpo8156
            have hr_v8167 : 0 ≤ v8167.toInt ∧ v8167.toInt ≤ 3 := hIF.at hf8166
            obtain ⟨w8169, hf8168⟩ : ∃ z : Int64, G 17 = z := ⟨_, rfl⟩
            have hq_w8169 := tk_rngL w8169
            rw [hf8168] at hpo8156
            obtain ⟨v8171, hf8170⟩ : ∃ z : Int32, F 19 = z := ⟨_, rfl⟩
            have hq_v8171 := tk_rng v8171
            rw [hf8170] at hpo8158 hpo8159 hpo8160
            have hr_v8171 : 0 ≤ v8171.toInt ∧ v8171.toInt ≤ 1 := hIF.at hf8170
            have hL22 := hL22.to (hrr9 22 (by decide))
            have hC9 := hC
            have hC : v8171.toInt = 0 → CLS 8 [3, 5] (R 24) (R 25) (Ra 22) gc.toInt gn.toInt := fun h9 => (hC9 (by omega)).to (hrr9 24 (by decide)) (hrr9 25 (by decide))
            refine lv_aload_n hx hb dX13_readLaw_57 rfl (lv_at hl 2 rfl) ?_
            refine mz_getI hx hb htl hown hK hM 19 (Nat.le_of_ble_eq_true rfl) rfl (htl _ mw_668) (fun _ h9 => h9) dX13_readLaw_58 (fun v9 e9 => ?_)
            refine fx_ti (v := v8171) (e9.symm.trans hf8170) ?_
            refine lv_if_eq (tgt := 65) hx hb dX13_readLaw_61 (by decide) (fun c9 => ?_) (fun c9 => ?_)
            · have hc8172 : v8171.toInt = 0 := (fi_eq rfl (show (0 : Int32).toInt = 0 by decide)).mp c9
              exfalso
              omega
            · have hc8172 : ¬ (v8171.toInt = 0) := fun h9 => c9 ((fi_eq rfl (show (0 : Int32).toInt = 0 by decide)).mpr h9)
              exact mz_vret hx hb hr hlocks ⟨hIF, hIG, hIR, hFF, hRR, hGG, (by rw [hf8162, hf8164]; omega), (by rw [hf8164]; omega), (by rw [hf8162, hf8164, hf8166]; omega), (by rw [hf8162, hf8164, hf8166, hf8168]; omega), (by rw [hf8162]; omega), (by rw [hg_6]; omega), (by rw [hf8162, hg_6]; omega), (by rw [hf8170]; omega), (by rw [hf8162, hf8170]; omega), (by rw [hf8170]; exact fun h9 => absurd h9 (by omega))⟩ hM hS dX13_readLaw_64
          · have hc8152 : ¬ (12 ≤ gn.toInt) := fun h9 => c9 ((fi_le (show (12 : Int32).toInt = 12 by decide) rfl).mpr h9)
            refine lv_iconst (v := 1) hx hb dX13_readLaw_49 (by decide) ?_
            refine lv_goto (tgt := 54) hx hb dX13_readLaw_50 (by decide) ?_
            have hk_1 : (1 : Int32).toInt = 1 := by decide
            refine mz_Vv (As := [.int 1]) (rest := []) ⟨hx, hb, hml, hown, hts⟩ hK hM hS (k_X13_must l D cy ld ad am hD _ _ _ _ 1 gf gt gs gp gw gb hIF hIG hIR hg_0 hg_1 hg_2 hg_3 hg_4 hg_5 (by omega) (by omega) (by omega) (by omega) (by omega) (by omega)) ⟨callB_of 1 hts (wl_in mw_713) rfl rfl rfl (htl _ mw_5) (htl _ mw_710) hd_yX13_must ⟨(Nat.le_of_ble_eq_true rfl), (Nat.le_of_ble_eq_true rfl)⟩, htl _ mw_711, htl _ mw_712⟩ rfl hl.1 rfl (Nat.le_of_ble_eq_true rfl) dX13_readLaw_54 ⟨(Nat.le_of_ble_eq_true rfl), (Nat.le_of_ble_eq_true rfl)⟩ (fun H locs F G R S hpo hM hS => ?_)
            obtain ⟨hIF, hIG, hIR, hfr9, hrr9, hgr9, hpo8173, hpo8174, hpo8175, hpo8176, hpo8177, hpo8178, hpo8179, hpo8180⟩ := hpo
            have hFF := mz_fr (K := [14, 15, 16, 18, 19, 21, 23, 26, 29, 30]) (Fa := Fa) hfr9 (fun _ _ => rfl) (by decide)
            have hRR := mz_fr (K := [22, 24, 25, 27, 28]) (Fa := Ra) hrr9 (fun _ _ => rfl) (by decide)
            have hGG := mz_fr (K := [17]) (Fa := Ga) hgr9 (fun _ _ => rfl) (by decide)
            have hg_3 := (hfr9 13 (by decide)).trans hg_3
            have hg_6 := (hfr9 23 (by decide)).trans hg_6
            have hg_7 := (hfr9 21 (by decide)).trans hg_7
            obtain ⟨v8183, hf8182⟩ : ∃ z : Int32, F 14 = z := ⟨_, rfl⟩
            have hq_v8183 := tk_rng v8183
            rw [hf8182] at hpo8173 hpo8175 hpo8176 hpo8177 hpo8179
            have hr_v8183 : 0 ≤ v8183.toInt ∧ v8183.toInt ≤ 400 := hIF.at hf8182
            obtain ⟨v8185, hf8184⟩ : ∃ z : Int32, F 15 = z := ⟨_, rfl⟩
            have hq_v8185 := tk_rng v8185
            rw [hf8184] at hpo8173 hpo8174 hpo8175 hpo8176
            have hr_v8185 : 0 ≤ v8185.toInt ∧ v8185.toInt ≤ 400 := hIF.at hf8184
            obtain ⟨v8187, hf8186⟩ : ∃ z : Int32, F 16 = z := ⟨_, rfl⟩
            have hq_v8187 := tk_rng v8187
            rw [hf8186] at hpo8175 hpo8176
            have hr_v8187 : 0 ≤ v8187.toInt ∧ v8187.toInt ≤ 3 := hIF.at hf8186
            obtain ⟨w8189, hf8188⟩ : ∃ z : Int64, G 17 = z := ⟨_, rfl⟩
            have hq_w8189 := tk_rngL w8189
            rw [hf8188] at hpo8176
            obtain ⟨v8191, hf8190⟩ : ∃ z : Int32, F 19 = z := ⟨_, rfl⟩
            have hq_v8191 := tk_rng v8191
            rw [hf8190] at hpo8178 hpo8179 hpo8180
            have hr_v8191 : 0 ≤ v8191.toInt ∧ v8191.toInt ≤ 1 := hIF.at hf8190
            have hL22 := hL22.to (hrr9 22 (by decide))
            have hC9 := hC
            have hC : v8191.toInt = 0 → CLS 8 [3, 5] (R 24) (R 25) (Ra 22) gc.toInt gn.toInt := fun h9 => (hC9 (by omega)).to (hrr9 24 (by decide)) (hrr9 25 (by decide))
            refine lv_aload_n hx hb dX13_readLaw_57 rfl (lv_at hl 2 rfl) ?_
            refine mz_getI hx hb htl hown hK hM 19 (Nat.le_of_ble_eq_true rfl) rfl (htl _ mw_668) (fun _ h9 => h9) dX13_readLaw_58 (fun v9 e9 => ?_)
            refine fx_ti (v := v8191) (e9.symm.trans hf8190) ?_
            refine lv_if_eq (tgt := 65) hx hb dX13_readLaw_61 (by decide) (fun _ => ?_) (fun c9 => absurd ((fi_eq rfl (show (0 : Int32).toInt = 0 by decide)).mpr (show v8191.toInt = 0 by omega)) c9)
            refine lv_bipush (v := 8) hx hb dX13_readLaw_65 (by decide) ?_
            refine lv_aload_n hx hb dX13_readLaw_67 rfl (lv_at hl 2 rfl) ?_
            refine mz_getI hx hb htl hown hK hM 21 (Nat.le_of_ble_eq_true rfl) rfl (htl _ mw_669) (fun _ h9 => h9) dX13_readLaw_68 (fun v9 e9 => ?_)
            refine fx_ti (v := gn) (e9.symm.trans hg_7) ?_
            refine lv_imul hx hb dX13_readLaw_71 ?_
            refine tk_mul (show (8 : Int32).toInt = 8 by decide) rfl (by omega) (by omega) (fun v8192 h_v8192 => ?_)
            refine lv_istore_n (lv' := [(2, .int v8192), (1, .int v1067), (0, .ref am)]) hx hb dX13_readLaw_72 rfl hl (by decide) rfl (fun ls hl => ?_)
            refine lv_iconst (v := 0) hx hb dX13_readLaw_73 (by decide) ?_
            refine lv_istore_n (lv' := [(3, .int 0), (2, .int v8192), (1, .int v1067), (0, .ref am)]) hx hb dX13_readLaw_74 rfl hl (by decide) rfl (fun ls hl => ?_)
            have hl9038 : ∀ (N_l9038 : Nat) (v8193 : Int32) (H : Heap) (locs : List Loc) (R : Nat → Nat → Int32), (0 ≤ (-1) * v8191.toInt + v8193.toInt) → (v8193.toInt ≤ 8) → (mz_S D cy ad am F G R S H) → (va_S (mz_W ad am) s.heap H locs) → (mz_IR [] true R) → (∀ k : Nat, k ∉ ([22, 24, 25, 27, 28] : List Nat) → R k = Ra k) → (low (8 * gn.toInt.toNat) (Ra 22) (R 22)) → (v8191.toInt = 0 → CLS 8 [3, 5] (R 24) (R 25) (Ra 22) gc.toInt gn.toInt) → ((-1) * v8193.toInt + 8 < (N_l9038 : Int)) → ∀ ls : Array Slot, lv_has ls 4 [(3, .int v8193), (2, .int v8192), (1, .int v1067), (0, .ref am)] → W p l e ({ frames := 10, cells := 0, slots := 0, locals := 630 }) s m args below meth c H locs 0 0 (MQ below (mz_w D cy ad am (fun F G R S => mz_IF false F ∧ mz_IG G ∧ mz_IR [] true R ∧ (∀ k : Nat, k ∉ ([14, 15, 16, 18, 19, 21, 23, 26, 29, 30] : List Nat) → F k = Fa k) ∧ (∀ k : Nat, k ∉ ([22, 24, 25, 27, 28] : List Nat) → R k = Ra k) ∧ (∀ k : Nat, k ∉ ([17] : List Nat) → G k = Ga k) ∧ 0 ≤ (-1) * (F 14).toInt + (F 15).toInt ∧ 0 ≤ gp.toInt + (-1) * (F 15).toInt ∧ (1 ≤ (F 16).toInt → 0 ≤ (-1) * (F 14).toInt + (F 15).toInt + (-1)) ∧ (27 ≤ (G 17).toInt → 1 ≤ (F 16).toInt → (F 16).toInt ≤ 1 → 0 ≤ (-1) * (F 14).toInt + (F 15).toInt + (-2)) ∧ 0 ≤ (-1) * gf.toInt + (F 14).toInt ∧ 0 ≤ (-1) * gc.toInt + (F 23).toInt ∧ 0 ≤ (-1) * (F 23).toInt + (F 14).toInt ∧ 0 ≤ (-1) * gb.toInt + (F 19).toInt ∧ ((F 19).toInt ≤ 0 → 0 ≤ (-1) * gf.toInt + (F 14).toInt + (-1)) ∧ ((F 19).toInt = 0 → CLS 8 [3, 5] (R 24) (R 25) (R 22) (F 23).toInt (F 21).toInt))) args s 0 0 (mz_W ad am)) (F0 m 75 ls []) := by
              intro N_l9038
              induction N_l9038 with
              | zero => intro v8193 H locs R hq0_l9038 hq1_l9038 hM hS hIR hRR hL22 hC hm_l9038 ls hl; exfalso; omega
              | succ N_l9038 ih_l9038 =>
                intro v8193 H locs R hq0_l9038 hq1_l9038 hM hS hIR hRR hL22 hC hm_l9038 ls hl
                refine lv_iload_n hx hb dX13_readLaw_75 rfl (lv_at hl 0 rfl) ?_
                refine lv_bipush (v := 8) hx hb dX13_readLaw_76 (by decide) ?_
                refine lv_icmp_ge (tgt := 96) hx hb dX13_readLaw_78 (by decide) (fun c9 => ?_) (fun c9 => ?_)
                · have hc9039 : 8 ≤ v8193.toInt := (fi_le (show (8 : Int32).toInt = 8 by decide) rfl).mp c9
                  refine lv_aload_n hx hb dX13_readLaw_96 rfl (lv_at hl 3 rfl) ?_
                  refine mz_getR hx hb htl hown hK hM 22 (Nat.le_of_ble_eq_true rfl) (Nat.le_of_ble_eq_true rfl) (htl _ mw_197) (fun _ h9 => h9) dX13_readLaw_97 ?_
                  refine lv_iload_n hx hb dX13_readLaw_100 rfl (lv_at hl 1 rfl) ?_
                  refine lv_iload_n hx hb dX13_readLaw_101 rfl (lv_at hl 2 rfl) ?_
                  refine mz_iast (x := v1067) hx hb hK hD hM hS 22 (Nat.le_of_ble_eq_true rfl) rfl (nn := 96) rfl rfl (by omega) (by omega) dX13_readLaw_102 (fun H locs R hM hS hw9 hj9 => ?_)
                  have hIR := hIR.put hw9 hj9 trivial
                  have hL22 : low (8 * gn.toInt.toNat) (Ra 22) (R 22) := fun j hj => by rw [hw9, pk_un (fun h9 => by have h8 := tk_nat (i := v8192) rfl (by omega); omega)]; exact hL22 j hj
                  have hC9 := hC
                  have hC : v8191.toInt = 0 → CLS 8 [3, 5] (R 24) (R 25) (Ra 22) gc.toInt gn.toInt := fun h9 => (hC9 (by omega)).to (hj9 24 (by decide)) (hj9 25 (by decide))
                  have h22_0 : R 22 (8 * gn.toInt.toNat + 0) = v1067 := by rw [hw9, show 8 * gn.toInt.toNat + 0 = (v8192 : Int32).toNatClampNeg by show _ = v8192.toInt.toNat; omega]; exact pk_us
                  have hRR := mz_frp (K := [22, 24, 25, 27, 28]) (Fa := Ra) hj9 hRR (by decide)
                  refine lv_aload_n hx hb dX13_readLaw_103 rfl (lv_at hl 3 rfl) ?_
                  refine lv_dup hx hb dX13_readLaw_104 rfl ?_
                  refine mz_getI hx hb htl hown hK hM 21 (Nat.le_of_ble_eq_true rfl) rfl (htl _ mw_669) (fun _ h9 => h9) dX13_readLaw_105 (fun v9 e9 => ?_)
                  refine fx_ti (v := gn) (e9.symm.trans hg_7) ?_
                  refine lv_iconst (v := 1) hx hb dX13_readLaw_108 (by decide) ?_
                  refine lv_iadd hx hb dX13_readLaw_109 ?_
                  refine tk_add rfl (show (1 : Int32).toInt = 1 by decide) (by omega) (by omega) (fun v9041 h_v9041 => ?_)
                  refine mz_putI (ty := .int) (x := v9041) hx hb htl hown hK hD hM hS 21 (Nat.le_of_ble_eq_true rfl) rfl (htl _ mw_669) (fun _ h9 => h9) rfl (tyX13_ok 21 (by decide)) rfl rfl dX13_readLaw_110 (fun H locs F hM hS hf9 hj9 => ?_)
                  have hIF := hIF.put hf9 hj9 (show 0 ≤ (v9041 : Int32).toInt by omega) (show (v9041 : Int32).toInt ≤ 12 by omega) (by decide)
                  have hFF := mz_frp (K := [14, 15, 16, 18, 19, 21, 23, 26, 29, 30]) (Fa := Fa) hj9 hFF (by decide)
                  have hg_3 := (hj9 13 (by decide)).trans hg_3
                  have hg_6 := (hj9 23 (by decide)).trans hg_6
                  have hf8182 := (hj9 14 (by decide)).trans hf8182
                  have hf8184 := (hj9 15 (by decide)).trans hf8184
                  have hf8186 := (hj9 16 (by decide)).trans hf8186
                  have hf8190 := (hj9 19 (by decide)).trans hf8190
                  have hf9043 := hf9
                  refine lv_aload_n hx hb dX13_readLaw_113 rfl (lv_at hl 3 rfl) ?_
                  refine mz_getR hx hb htl hown hK hM 22 (Nat.le_of_ble_eq_true rfl) (Nat.le_of_ble_eq_true rfl) (htl _ mw_197) (fun _ h9 => h9) dX13_readLaw_114 ?_
                  refine lv_iload_n hx hb dX13_readLaw_117 rfl (lv_at hl 1 rfl) ?_
                  refine lv_iconst (v := 3) hx hb dX13_readLaw_118 (by decide) ?_
                  refine lv_iadd hx hb dX13_readLaw_119 ?_
                  refine tk_add rfl (show (3 : Int32).toInt = 3 by decide) (by omega) (by omega) (fun v9044 h_v9044 => ?_)
                  refine lv_aload_n hx hb dX13_readLaw_120 rfl (lv_at hl 3 rfl) ?_
                  refine mz_getI hx hb htl hown hK hM 23 (Nat.le_of_ble_eq_true rfl) rfl (htl _ mw_670) (fun _ h9 => h9) dX13_readLaw_121 (fun v9 e9 => ?_)
                  refine fx_ti (v := gc) (e9.symm.trans hg_6) ?_
                  refine mz_iast (x := gc) hx hb hK hD hM hS 22 (Nat.le_of_ble_eq_true rfl) rfl (nn := 96) rfl rfl (by omega) (by omega) dX13_readLaw_124 (fun H locs R hM hS hw9 hj9 => ?_)
                  have hIR := hIR.put hw9 hj9 trivial
                  have hL22 : low (8 * gn.toInt.toNat) (Ra 22) (R 22) := fun j hj => by rw [hw9, pk_un (fun h9 => by have h8 := tk_nat (i := v9044) rfl (by omega); omega)]; exact hL22 j hj
                  have h22_0 : R 22 (8 * gn.toInt.toNat + 0) = v1067 := by rw [hw9, pk_un (fun h9 => by have h8 := tk_nat (i := v9044) rfl (by omega); omega)]; exact h22_0
                  have hC9 := hC
                  have hC : v8191.toInt = 0 → CLS 8 [3, 5] (R 24) (R 25) (Ra 22) gc.toInt gn.toInt := fun h9 => (hC9 (by omega)).to (hj9 24 (by decide)) (hj9 25 (by decide))
                  have h22_3 : R 22 (8 * gn.toInt.toNat + 3) = gc := by rw [hw9, show 8 * gn.toInt.toNat + 3 = (v9044 : Int32).toNatClampNeg by show _ = v9044.toInt.toNat; omega]; exact pk_us
                  have hRR := mz_frp (K := [22, 24, 25, 27, 28]) (Fa := Ra) hj9 hRR (by decide)
                  refine lv_iload_n hx hb dX13_readLaw_125 rfl (lv_at hl 2 rfl) ?_
                  refine lv_iconst (v := 3) hx hb dX13_readLaw_126 (by decide) ?_
                  refine lv_icmp_eq (tgt := 135) hx hb dX13_readLaw_127 (by decide) (fun c9 => ?_) (fun c9 => ?_)
                  · have hc9046 : v1067.toInt = 3 := (fi_eq rfl (show (3 : Int32).toInt = 3 by decide)).mp c9
                    refine lv_aload_n hx hb dX13_readLaw_135 rfl (lv_at hl 3 rfl) ?_
                    refine mz_getR hx hb htl hown hK hM 22 (Nat.le_of_ble_eq_true rfl) (Nat.le_of_ble_eq_true rfl) (htl _ mw_197) (fun _ h9 => h9) dX13_readLaw_136 ?_
                    refine lv_iload_n hx hb dX13_readLaw_139 rfl (lv_at hl 1 rfl) ?_
                    refine lv_iconst (v := 4) hx hb dX13_readLaw_140 (by decide) ?_
                    refine lv_iadd hx hb dX13_readLaw_141 ?_
                    refine tk_add rfl (show (4 : Int32).toInt = 4 by decide) (by omega) (by omega) (fun v9047 h_v9047 => ?_)
                    refine lv_aload_n hx hb dX13_readLaw_142 rfl (lv_at hl 3 rfl) ?_
                    refine mz_getI hx hb htl hown hK hM 23 (Nat.le_of_ble_eq_true rfl) rfl (htl _ mw_670) (fun _ h9 => h9) dX13_readLaw_143 (fun v9 e9 => ?_)
                    refine fx_ti (v := gc) (e9.symm.trans hg_6) ?_
                    refine mz_iast (x := gc) hx hb hK hD hM hS 22 (Nat.le_of_ble_eq_true rfl) rfl (nn := 96) rfl rfl (by omega) (by omega) dX13_readLaw_146 (fun H locs R hM hS hw9 hj9 => ?_)
                    have hIR := hIR.put hw9 hj9 trivial
                    have hL22 : low (8 * gn.toInt.toNat) (Ra 22) (R 22) := fun j hj => by rw [hw9, pk_un (fun h9 => by have h8 := tk_nat (i := v9047) rfl (by omega); omega)]; exact hL22 j hj
                    have h22_0 : R 22 (8 * gn.toInt.toNat + 0) = v1067 := by rw [hw9, pk_un (fun h9 => by have h8 := tk_nat (i := v9047) rfl (by omega); omega)]; exact h22_0
                    have h22_3 : R 22 (8 * gn.toInt.toNat + 3) = gc := by rw [hw9, pk_un (fun h9 => by have h8 := tk_nat (i := v9047) rfl (by omega); omega)]; exact h22_3
                    have hC9 := hC
                    have hC : v8191.toInt = 0 → CLS 8 [3, 5] (R 24) (R 25) (Ra 22) gc.toInt gn.toInt := fun h9 => (hC9 (by omega)).to (hj9 24 (by decide)) (hj9 25 (by decide))
                    have h22_4 : R 22 (8 * gn.toInt.toNat + 4) = gc := by rw [hw9, show 8 * gn.toInt.toNat + 4 = (v9047 : Int32).toNatClampNeg by show _ = v9047.toInt.toNat; omega]; exact pk_us
                    have hRR := mz_frp (K := [22, 24, 25, 27, 28]) (Fa := Ra) hj9 hRR (by decide)
                    refine lv_aload_n hx hb dX13_readLaw_147 rfl (lv_at hl 3 rfl) ?_
                    refine mz_getR hx hb htl hown hK hM 22 (Nat.le_of_ble_eq_true rfl) (Nat.le_of_ble_eq_true rfl) (htl _ mw_197) (fun _ h9 => h9) dX13_readLaw_148 ?_
                    refine lv_iload_n hx hb dX13_readLaw_151 rfl (lv_at hl 1 rfl) ?_
                    refine lv_iconst (v := 5) hx hb dX13_readLaw_152 (by decide) ?_
                    refine lv_iadd hx hb dX13_readLaw_153 ?_
                    refine tk_add rfl (show (5 : Int32).toInt = 5 by decide) (by omega) (by omega) (fun v9049 h_v9049 => ?_)
                    refine lv_aload_n hx hb dX13_readLaw_154 rfl (lv_at hl 3 rfl) ?_
                    refine mz_getI hx hb htl hown hK hM 23 (Nat.le_of_ble_eq_true rfl) rfl (htl _ mw_670) (fun _ h9 => h9) dX13_readLaw_155 (fun v9 e9 => ?_)
                    refine fx_ti (v := gc) (e9.symm.trans hg_6) ?_
                    refine mz_iast (x := gc) hx hb hK hD hM hS 22 (Nat.le_of_ble_eq_true rfl) rfl (nn := 96) rfl rfl (by omega) (by omega) dX13_readLaw_158 (fun H locs R hM hS hw9 hj9 => ?_)
                    have hIR := hIR.put hw9 hj9 trivial
                    have hL22 : low (8 * gn.toInt.toNat) (Ra 22) (R 22) := fun j hj => by rw [hw9, pk_un (fun h9 => by have h8 := tk_nat (i := v9049) rfl (by omega); omega)]; exact hL22 j hj
                    have h22_0 : R 22 (8 * gn.toInt.toNat + 0) = v1067 := by rw [hw9, pk_un (fun h9 => by have h8 := tk_nat (i := v9049) rfl (by omega); omega)]; exact h22_0
                    have h22_3 : R 22 (8 * gn.toInt.toNat + 3) = gc := by rw [hw9, pk_un (fun h9 => by have h8 := tk_nat (i := v9049) rfl (by omega); omega)]; exact h22_3
                    have h22_4 : R 22 (8 * gn.toInt.toNat + 4) = gc := by rw [hw9, pk_un (fun h9 => by have h8 := tk_nat (i := v9049) rfl (by omega); omega)]; exact h22_4
                    have hC9 := hC
                    have hC : v8191.toInt = 0 → CLS 8 [3, 5] (R 24) (R 25) (Ra 22) gc.toInt gn.toInt := fun h9 => (hC9 (by omega)).to (hj9 24 (by decide)) (hj9 25 (by decide))
                    have h22_5 : R 22 (8 * gn.toInt.toNat + 5) = gc := by rw [hw9, show 8 * gn.toInt.toNat + 5 = (v9049 : Int32).toNatClampNeg by show _ = v9049.toInt.toNat; omega]; exact pk_us
                    have hRR := mz_frp (K := [22, 24, 25, 27, 28]) (Fa := Ra) hj9 hRR (by decide)
                    refine lv_aload_n hx hb dX13_readLaw_159 rfl (lv_at hl 3 rfl) ?_
                    refine mz_getI hx hb htl hown hK hM 19 (Nat.le_of_ble_eq_true rfl) rfl (htl _ mw_668) (fun _ h9 => h9) dX13_readLaw_160 (fun v9 e9 => ?_)
                    refine fx_ti (v := v8191) (e9.symm.trans hf8190) ?_
                    refine lv_if_ne (tgt := 185) hx hb dX13_readLaw_163 (by decide) (fun c9 => absurd ((fi_eq rfl (show (0 : Int32).toInt = 0 by decide)).mpr (show v8191.toInt = 0 by omega)) c9) (fun _ => ?_)
                    refine lv_aload_n hx hb dX13_readLaw_166 rfl (lv_at hl 3 rfl) ?_
                    refine lv_ldc2 hx hb hown (htl _ mw_705) dX13_readLaw_167 ?_
                    have hk_294 : (294 : Int64).toInt = 294 := by decide
                    refine mz_Vj (As := [.long 294]) (rest := []) ⟨hx, hb, hml, hown, hts⟩ hK hM hS (k_X13_isWord l D cy ld ad am hD _ _ _ _ 294 v8187 w8189 hIF hIG hIR hf8186 hf8188) ⟨callB_of 1 hts (wl_in mw_709) rfl rfl rfl (htl _ mw_5) (htl _ mw_706) hd_yX13_isWord ⟨(Nat.le_of_ble_eq_true rfl), (Nat.le_of_ble_eq_true rfl)⟩, htl _ mw_707, htl _ mw_708⟩ rfl hl.1 rfl (Nat.le_of_ble_eq_true rfl) dX13_readLaw_170 ⟨(Nat.le_of_ble_eq_true rfl), (Nat.le_of_ble_eq_true rfl)⟩ (fun v9051 H locs hpo hM hS => ?_)
                    obtain ⟨hpo9052, hpo9053, hpo9054, hpo9055, hpo9056⟩ := hpo
                    have hq_v9051 := tk_rng v9051
                    refine lv_if_eq (tgt := 185) hx hb dX13_readLaw_173 (by decide) (fun c9 => ?_) (fun c9 => ?_)
                    · have hc9058 : v9051.toInt = 0 := (fi_eq rfl (show (0 : Int32).toInt = 0 by decide)).mp c9
                      refine lv_aload_n hx hb dX13_readLaw_185 rfl (lv_at hl 3 rfl) ?_
                      refine mz_getR hx hb htl hown hK hM 22 (Nat.le_of_ble_eq_true rfl) (Nat.le_of_ble_eq_true rfl) (htl _ mw_197) (fun _ h9 => h9) dX13_readLaw_186 ?_
                      refine lv_iload_n hx hb dX13_readLaw_189 rfl (lv_at hl 1 rfl) ?_
                      refine lv_bipush (v := 6) hx hb dX13_readLaw_190 (by decide) ?_
                      refine lv_iadd hx hb dX13_readLaw_192 ?_
                      refine tk_add rfl (show (6 : Int32).toInt = 6 by decide) (by omega) (by omega) (fun v9059 h_v9059 => ?_)
                      refine lv_aload_n hx hb dX13_readLaw_193 rfl (lv_at hl 3 rfl) ?_
                      refine mz_getI hx hb htl hown hK hM 23 (Nat.le_of_ble_eq_true rfl) rfl (htl _ mw_670) (fun _ h9 => h9) dX13_readLaw_194 (fun v9 e9 => ?_)
                      refine fx_ti (v := gc) (e9.symm.trans hg_6) ?_
                      refine mz_iast (x := gc) hx hb hK hD hM hS 22 (Nat.le_of_ble_eq_true rfl) rfl (nn := 96) rfl rfl (by omega) (by omega) dX13_readLaw_197 (fun H locs R hM hS hw9 hj9 => ?_)
                      have hIR := hIR.put hw9 hj9 trivial
                      have hL22 : low (8 * gn.toInt.toNat) (Ra 22) (R 22) := fun j hj => by rw [hw9, pk_un (fun h9 => by have h8 := tk_nat (i := v9059) rfl (by omega); omega)]; exact hL22 j hj
                      have h22_0 : R 22 (8 * gn.toInt.toNat + 0) = v1067 := by rw [hw9, pk_un (fun h9 => by have h8 := tk_nat (i := v9059) rfl (by omega); omega)]; exact h22_0
                      have h22_3 : R 22 (8 * gn.toInt.toNat + 3) = gc := by rw [hw9, pk_un (fun h9 => by have h8 := tk_nat (i := v9059) rfl (by omega); omega)]; exact h22_3
                      have h22_4 : R 22 (8 * gn.toInt.toNat + 4) = gc := by rw [hw9, pk_un (fun h9 => by have h8 := tk_nat (i := v9059) rfl (by omega); omega)]; exact h22_4
                      have h22_5 : R 22 (8 * gn.toInt.toNat + 5) = gc := by rw [hw9, pk_un (fun h9 => by have h8 := tk_nat (i := v9059) rfl (by omega); omega)]; exact h22_5
                      have hC9 := hC
                      have hC : v8191.toInt = 0 → CLS 8 [3, 5] (R 24) (R 25) (Ra 22) gc.toInt gn.toInt := fun h9 => (hC9 (by omega)).to (hj9 24 (by decide)) (hj9 25 (by decide))
                      have h22_6 : R 22 (8 * gn.toInt.toNat + 6) = gc := by rw [hw9, show 8 * gn.toInt.toNat + 6 = (v9059 : Int32).toNatClampNeg by show _ = v9059.toInt.toNat; omega]; exact pk_us
                      have hRR := mz_frp (K := [22, 24, 25, 27, 28]) (Fa := Ra) hj9 hRR (by decide)
                      exact mz_vret hx hb hr hlocks ⟨hIF, hIG, hIR, hFF, hRR, hGG, (by rw [hf8182, hf8184]; omega), (by rw [hf8184]; omega), (by rw [hf8182, hf8184, hf8186]; omega), (by rw [hf8182, hf8184, hf8186, hf8188]; omega), (by rw [hf8182]; omega), (by rw [hg_6]; omega), (by rw [hf8182, hg_6]; omega), (by rw [hf8190]; omega), (by rw [hf8182, hf8190]; omega), (by rw [hf8190, hg_6, hf9043]; exact fun h9 => CLS.snoc (N := gn.toInt.toNat) (hC h9) (by omega) (by omega) hL22 (by decide) (by omega) (by intro d hd; simp only [List.mem_cons, List.not_mem_nil, or_false] at hd; rcases hd with rfl | rfl <;> first | (rw [show 8 * gn.toInt.toNat + 3 + 1 = 8 * gn.toInt.toNat + 4 from rfl, h22_3, h22_4]; exact ⟨WFX.nil (by omega) (by omega), by omega⟩) | (rw [show 8 * gn.toInt.toNat + 5 + 1 = 8 * gn.toInt.toNat + 6 from rfl, h22_5, h22_6]; exact ⟨WFX.nil (by omega) (by omega), by omega⟩)))⟩ hM hS dX13_readLaw_198
                    · have hc9058 : ¬ (v9051.toInt = 0) := fun h9 => c9 ((fi_eq rfl (show (0 : Int32).toInt = 0 by decide)).mpr h9)
                      refine lv_aload_n hx hb dX13_readLaw_176 rfl (lv_at hl 3 rfl) ?_
                      refine mz_Vv (As := []) (rest := []) ⟨hx, hb, hml, hown, hts⟩ hK hM hS (k_X13_next l D cy ld ad am hD _ _ _ _ v8185 gp hIF hIG hIR hf8184 hg_3 (by omega)) ⟨callB_of 0 hts (wl_in mw_685) rfl rfl rfl (htl _ mw_5) (htl _ mw_682) hd_yX13_next ⟨(Nat.le_of_ble_eq_true rfl), (Nat.le_of_ble_eq_true rfl)⟩, htl _ mw_683, htl _ mw_684⟩ rfl hl.1 rfl (Nat.le_of_ble_eq_true rfl) dX13_readLaw_177 ⟨(Nat.le_of_ble_eq_true rfl), (Nat.le_of_ble_eq_true rfl)⟩ (fun H locs F G R S hpo hM hS => ?_)
                      obtain ⟨hIF, hIG, hIR, hfr9, hrr9, hgr9, hpo9061, hpo9062, hpo9063, hpo9064, hpo9065⟩ := hpo
                      have hFF := mz_fr (K := [14, 15, 16, 18, 19, 21, 23, 26, 29, 30]) (Fa := Fa) hfr9 hFF (by decide)
                      have hRR := mz_fr (K := [22, 24, 25, 27, 28]) (Fa := Ra) hrr9 hRR (by decide)
                      have hGG := mz_fr (K := [17]) (Fa := Ga) hgr9 hGG (by decide)
                      have hg_3 := (hfr9 13 (by decide)).trans hg_3
                      have hg_6 := (hfr9 23 (by decide)).trans hg_6
                      have hf8190 := (hfr9 19 (by decide)).trans hf8190
                      have hf9043 := (hfr9 21 (by decide)).trans hf9043
                      obtain ⟨v9068, hf9067⟩ : ∃ z : Int32, F 14 = z := ⟨_, rfl⟩
                      have hq_v9068 := tk_rng v9068
                      rw [hf9067] at hpo9061 hpo9062 hpo9064 hpo9065
                      have hr_v9068 : 0 ≤ v9068.toInt ∧ v9068.toInt ≤ 400 := hIF.at hf9067
                      obtain ⟨v9070, hf9069⟩ : ∃ z : Int32, F 15 = z := ⟨_, rfl⟩
                      have hq_v9070 := tk_rng v9070
                      rw [hf9069] at hpo9062 hpo9063 hpo9064 hpo9065
                      have hr_v9070 : 0 ≤ v9070.toInt ∧ v9070.toInt ≤ 400 := hIF.at hf9069
                      obtain ⟨v9072, hf9071⟩ : ∃ z : Int32, F 16 = z := ⟨_, rfl⟩
                      have hq_v9072 := tk_rng v9072
                      rw [hf9071] at hpo9064 hpo9065
                      have hr_v9072 : 0 ≤ v9072.toInt ∧ v9072.toInt ≤ 3 := hIF.at hf9071
                      obtain ⟨w9074, hf9073⟩ : ∃ z : Int64, G 17 = z := ⟨_, rfl⟩
                      have hq_w9074 := tk_rngL w9074
                      rw [hf9073] at hpo9065
                      have hL22 := hL22.to (hrr9 22 (by decide))
                      have h22_0 := (congrFun (hrr9 22 (by decide)) _).trans h22_0
                      have h22_3 := (congrFun (hrr9 22 (by decide)) _).trans h22_3
                      have h22_4 := (congrFun (hrr9 22 (by decide)) _).trans h22_4
                      have h22_5 := (congrFun (hrr9 22 (by decide)) _).trans h22_5
                      have hC9 := hC
                      have hC : v8191.toInt = 0 → CLS 8 [3, 5] (R 24) (R 25) (Ra 22) gc.toInt gn.toInt := fun h9 => (hC9 (by omega)).to (hrr9 24 (by decide)) (hrr9 25 (by decide))
                      refine lv_aload_n hx hb dX13_readLaw_180 rfl (lv_at hl 3 rfl) ?_
                      refine lv_iconst (v := 1) hx hb dX13_readLaw_181 (by decide) ?_
                      have hk_1 : (1 : Int32).toInt = 1 := by decide
                      refine mz_Vv (As := [.int 1]) (rest := []) ⟨hx, hb, hml, hown, hts⟩ hK hM hS (k_X13_readExpression l D cy ld ad am hD _ _ _ _ 1 v9068 v9070 v9072 gp w9074 v8191 gc hIF hIG hIR hf9067 hf9069 hf9071 hg_3 hf9073 hf8190 hg_6 (by omega) (by omega) (by omega) (by omega) (by omega) (by omega) (by omega) (by omega)) ⟨callB_of 1 hts (wl_in mw_717) rfl rfl rfl (htl _ mw_5) (htl _ mw_714) hd_yX13_readExpression ⟨(Nat.le_of_ble_eq_true rfl), (Nat.le_of_ble_eq_true rfl)⟩, htl _ mw_715, htl _ mw_716⟩ rfl hl.1 rfl (Nat.le_of_ble_eq_true rfl) dX13_readLaw_182 ⟨(Nat.le_of_ble_eq_true rfl), (Nat.le_of_ble_eq_true rfl)⟩ (fun H locs F G R S hpo hM hS => ?_)
                      obtain ⟨hIF, hIG, hIR, hfr9, hrr9, hgr9, hpo9075, hpo9076, hpo9077, hpo9078, hpo9079, hpo9080, hpo9081, hx9082⟩ := hpo
                      have hFF := mz_fr (K := [14, 15, 16, 18, 19, 21, 23, 26, 29, 30]) (Fa := Fa) hfr9 hFF (by decide)
                      have hRR := mz_fr (K := [22, 24, 25, 27, 28]) (Fa := Ra) hrr9 hRR (by decide)
                      have hGG := mz_fr (K := [17]) (Fa := Ga) hgr9 hGG (by decide)
                      have hg_3 := (hfr9 13 (by decide)).trans hg_3
                      have hf9043 := (hfr9 21 (by decide)).trans hf9043
                      obtain ⟨v9085, hf9084⟩ : ∃ z : Int32, F 14 = z := ⟨_, rfl⟩
                      have hq_v9085 := tk_rng v9085
                      rw [hf9084] at hpo9075 hpo9077 hpo9078 hpo9079 hpo9080
                      have hr_v9085 : 0 ≤ v9085.toInt ∧ v9085.toInt ≤ 400 := hIF.at hf9084
                      obtain ⟨v9087, hf9086⟩ : ∃ z : Int32, F 15 = z := ⟨_, rfl⟩
                      have hq_v9087 := tk_rng v9087
                      rw [hf9086] at hpo9075 hpo9076 hpo9077 hpo9078
                      have hr_v9087 : 0 ≤ v9087.toInt ∧ v9087.toInt ≤ 400 := hIF.at hf9086
                      obtain ⟨v9089, hf9088⟩ : ∃ z : Int32, F 16 = z := ⟨_, rfl⟩
                      have hq_v9089 := tk_rng v9089
                      rw [hf9088] at hpo9077 hpo9078
                      have hr_v9089 : 0 ≤ v9089.toInt ∧ v9089.toInt ≤ 3 := hIF.at hf9088
                      obtain ⟨w9091, hf9090⟩ : ∃ z : Int64, G 17 = z := ⟨_, rfl⟩
                      have hq_w9091 := tk_rngL w9091
                      rw [hf9090] at hpo9078
                      obtain ⟨v9093, hf9092⟩ : ∃ z : Int32, F 19 = z := ⟨_, rfl⟩
                      have hq_v9093 := tk_rng v9093
                      have hr_v9093 : 0 ≤ v9093.toInt ∧ v9093.toInt ≤ 1 := hIF.at hf9092
                      obtain ⟨v9095, hf9094⟩ : ∃ z : Int32, F 23 = z := ⟨_, rfl⟩
                      have hq_v9095 := tk_rng v9095
                      rw [hf9094] at hpo9080 hpo9081
                      have hr_v9095 : 0 ≤ v9095.toInt ∧ v9095.toInt ≤ 400 := hIF.at hf9094
                      have hL22 := hL22.to (hrr9 22 (by decide))
                      have h22_0 := (congrFun (hrr9 22 (by decide)) _).trans h22_0
                      have h22_3 := (congrFun (hrr9 22 (by decide)) _).trans h22_3
                      have h22_4 := (congrFun (hrr9 22 (by decide)) _).trans h22_4
                      have h22_5 := (congrFun (hrr9 22 (by decide)) _).trans h22_5
                      have hE9 : v9093.toInt = 0 → WFC (R 24) (R 25) gc.toInt.toNat v9095.toInt.toNat ∧ low gc.toInt.toNat _ (R 24) ∧ low gc.toInt.toNat _ (R 25) := fun h9 => by have h8 := hx9082 (by rw [hf9092]; exact h9); rw [hf9094] at h8; exact h8
                      have hC9 := hC (by omega)
                      have hC : v9093.toInt = 0 → CLS 8 [3, 5] (R 24) (R 25) (Ra 22) gc.toInt gn.toInt := fun h9 => hC9.low (N := gc.toInt.toNat) (by omega) (hE9 h9).2.1 (hE9 h9).2.2
                      have hX9096 : v9093.toInt = 0 → WFX (R 24) (R 25) gc v9095 := fun h9 => ⟨by omega, by omega, by omega, (hE9 h9).1⟩
                      refine lv_aload_n hx hb dX13_readLaw_185 rfl (lv_at hl 3 rfl) ?_
                      refine mz_getR hx hb htl hown hK hM 22 (Nat.le_of_ble_eq_true rfl) (Nat.le_of_ble_eq_true rfl) (htl _ mw_197) (fun _ h9 => h9) dX13_readLaw_186 ?_
                      refine lv_iload_n hx hb dX13_readLaw_189 rfl (lv_at hl 1 rfl) ?_
                      refine lv_bipush (v := 6) hx hb dX13_readLaw_190 (by decide) ?_
                      refine lv_iadd hx hb dX13_readLaw_192 ?_
                      refine tk_add rfl (show (6 : Int32).toInt = 6 by decide) (by omega) (by omega) (fun v9097 h_v9097 => ?_)
                      refine lv_aload_n hx hb dX13_readLaw_193 rfl (lv_at hl 3 rfl) ?_
                      refine mz_getI hx hb htl hown hK hM 23 (Nat.le_of_ble_eq_true rfl) rfl (htl _ mw_670) (fun _ h9 => h9) dX13_readLaw_194 (fun v9 e9 => ?_)
                      refine fx_ti (v := v9095) (e9.symm.trans hf9094) ?_
                      refine mz_iast (x := v9095) hx hb hK hD hM hS 22 (Nat.le_of_ble_eq_true rfl) rfl (nn := 96) rfl rfl (by omega) (by omega) dX13_readLaw_197 (fun H locs R hM hS hw9 hj9 => ?_)
                      have hIR := hIR.put hw9 hj9 trivial
                      have hL22 : low (8 * gn.toInt.toNat) (Ra 22) (R 22) := fun j hj => by rw [hw9, pk_un (fun h9 => by have h8 := tk_nat (i := v9097) rfl (by omega); omega)]; exact hL22 j hj
                      have h22_0 : R 22 (8 * gn.toInt.toNat + 0) = v1067 := by rw [hw9, pk_un (fun h9 => by have h8 := tk_nat (i := v9097) rfl (by omega); omega)]; exact h22_0
                      have h22_3 : R 22 (8 * gn.toInt.toNat + 3) = gc := by rw [hw9, pk_un (fun h9 => by have h8 := tk_nat (i := v9097) rfl (by omega); omega)]; exact h22_3
                      have h22_4 : R 22 (8 * gn.toInt.toNat + 4) = gc := by rw [hw9, pk_un (fun h9 => by have h8 := tk_nat (i := v9097) rfl (by omega); omega)]; exact h22_4
                      have h22_5 : R 22 (8 * gn.toInt.toNat + 5) = gc := by rw [hw9, pk_un (fun h9 => by have h8 := tk_nat (i := v9097) rfl (by omega); omega)]; exact h22_5
                      have hC9 := hC
                      have hC : v9093.toInt = 0 → CLS 8 [3, 5] (R 24) (R 25) (Ra 22) gc.toInt gn.toInt := fun h9 => (hC9 (by omega)).to (hj9 24 (by decide)) (hj9 25 (by decide))
                      have hX90969 := hX9096
                      have hX9096 : v9093.toInt = 0 → WFX (R 24) (R 25) gc v9095 := fun h9 => by rw [hj9 24 (by decide), hj9 25 (by decide)]; exact hX90969 (by omega)
                      have h22_6 : R 22 (8 * gn.toInt.toNat + 6) = v9095 := by rw [hw9, show 8 * gn.toInt.toNat + 6 = (v9097 : Int32).toNatClampNeg by show _ = v9097.toInt.toNat; omega]; exact pk_us
                      have hRR := mz_frp (K := [22, 24, 25, 27, 28]) (Fa := Ra) hj9 hRR (by decide)
                      exact mz_vret hx hb hr hlocks ⟨hIF, hIG, hIR, hFF, hRR, hGG, (by rw [hf9084, hf9086]; omega), (by rw [hf9086]; omega), (by rw [hf9084, hf9086, hf9088]; omega), (by rw [hf9084, hf9086, hf9088, hf9090]; omega), (by rw [hf9084]; omega), (by rw [hf9094]; omega), (by rw [hf9084, hf9094]; omega), (by rw [hf9092]; omega), (by rw [hf9084, hf9092]; omega), (by rw [hf9092, hf9094, hf9043]; exact fun h9 => CLS.snoc (N := gn.toInt.toNat) (hC h9) (by omega) (by omega) hL22 (by decide) (by omega) (by intro d hd; simp only [List.mem_cons, List.not_mem_nil, or_false] at hd; rcases hd with rfl | rfl <;> first | (rw [show 8 * gn.toInt.toNat + 3 + 1 = 8 * gn.toInt.toNat + 4 from rfl, h22_3, h22_4]; exact ⟨WFX.nil (by omega) (by omega), by omega⟩) | (rw [show 8 * gn.toInt.toNat + 5 + 1 = 8 * gn.toInt.toNat + 6 from rfl, h22_5, h22_6]; exact ⟨hX9096 h9, by omega⟩)))⟩ hM hS dX13_readLaw_198
                  · have hc9046 : ¬ (v1067.toInt = 3) := fun h9 => c9 ((fi_eq rfl (show (3 : Int32).toInt = 3 by decide)).mpr h9)
                    refine lv_aload_n hx hb dX13_readLaw_130 rfl (lv_at hl 3 rfl) ?_
                    refine lv_iconst (v := 0) hx hb dX13_readLaw_131 (by decide) ?_
                    have hk_0 : (0 : Int32).toInt = 0 := by decide
                    refine mz_Vv (As := [.int 0]) (rest := []) ⟨hx, hb, hml, hown, hts⟩ hK hM hS (k_X13_readExpression l D cy ld ad am hD _ _ _ _ 0 v8183 v8185 v8187 gp w8189 v8191 gc hIF hIG hIR hf8182 hf8184 hf8186 hg_3 hf8188 hf8190 hg_6 (by omega) (by omega) (by omega) (by omega) (by omega) (by omega) (by omega) (by omega)) ⟨callB_of 1 hts (wl_in mw_717) rfl rfl rfl (htl _ mw_5) (htl _ mw_714) hd_yX13_readExpression ⟨(Nat.le_of_ble_eq_true rfl), (Nat.le_of_ble_eq_true rfl)⟩, htl _ mw_715, htl _ mw_716⟩ rfl hl.1 rfl (Nat.le_of_ble_eq_true rfl) dX13_readLaw_132 ⟨(Nat.le_of_ble_eq_true rfl), (Nat.le_of_ble_eq_true rfl)⟩ (fun H locs F G R S hpo hM hS => ?_)
                    obtain ⟨hIF, hIG, hIR, hfr9, hrr9, hgr9, hpo9099, hpo9100, hpo9101, hpo9102, hpo9103, hpo9104, hpo9105, hx9106⟩ := hpo
                    have hFF := mz_fr (K := [14, 15, 16, 18, 19, 21, 23, 26, 29, 30]) (Fa := Fa) hfr9 hFF (by decide)
                    have hRR := mz_fr (K := [22, 24, 25, 27, 28]) (Fa := Ra) hrr9 hRR (by decide)
                    have hGG := mz_fr (K := [17]) (Fa := Ga) hgr9 hGG (by decide)
                    have hg_3 := (hfr9 13 (by decide)).trans hg_3
                    have hf9043 := (hfr9 21 (by decide)).trans hf9043
                    obtain ⟨v9109, hf9108⟩ : ∃ z : Int32, F 14 = z := ⟨_, rfl⟩
                    have hq_v9109 := tk_rng v9109
                    rw [hf9108] at hpo9099 hpo9101 hpo9102 hpo9103 hpo9104
                    have hr_v9109 : 0 ≤ v9109.toInt ∧ v9109.toInt ≤ 400 := hIF.at hf9108
                    obtain ⟨v9111, hf9110⟩ : ∃ z : Int32, F 15 = z := ⟨_, rfl⟩
                    have hq_v9111 := tk_rng v9111
                    rw [hf9110] at hpo9099 hpo9100 hpo9101 hpo9102
                    have hr_v9111 : 0 ≤ v9111.toInt ∧ v9111.toInt ≤ 400 := hIF.at hf9110
                    obtain ⟨v9113, hf9112⟩ : ∃ z : Int32, F 16 = z := ⟨_, rfl⟩
                    have hq_v9113 := tk_rng v9113
                    rw [hf9112] at hpo9101 hpo9102
                    have hr_v9113 : 0 ≤ v9113.toInt ∧ v9113.toInt ≤ 3 := hIF.at hf9112
                    obtain ⟨w9115, hf9114⟩ : ∃ z : Int64, G 17 = z := ⟨_, rfl⟩
                    have hq_w9115 := tk_rngL w9115
                    rw [hf9114] at hpo9102
                    obtain ⟨v9117, hf9116⟩ : ∃ z : Int32, F 19 = z := ⟨_, rfl⟩
                    have hq_v9117 := tk_rng v9117
                    have hr_v9117 : 0 ≤ v9117.toInt ∧ v9117.toInt ≤ 1 := hIF.at hf9116
                    obtain ⟨v9119, hf9118⟩ : ∃ z : Int32, F 23 = z := ⟨_, rfl⟩
                    have hq_v9119 := tk_rng v9119
                    rw [hf9118] at hpo9104 hpo9105
                    have hr_v9119 : 0 ≤ v9119.toInt ∧ v9119.toInt ≤ 400 := hIF.at hf9118
                    have hL22 := hL22.to (hrr9 22 (by decide))
                    have h22_0 := (congrFun (hrr9 22 (by decide)) _).trans h22_0
                    have h22_3 := (congrFun (hrr9 22 (by decide)) _).trans h22_3
                    have hE9 : v9117.toInt = 0 → WFC (R 24) (R 25) gc.toInt.toNat v9119.toInt.toNat ∧ low gc.toInt.toNat _ (R 24) ∧ low gc.toInt.toNat _ (R 25) := fun h9 => by have h8 := hx9106 (by rw [hf9116]; exact h9); rw [hf9118] at h8; exact h8
                    have hC9 := hC (by omega)
                    have hC : v9117.toInt = 0 → CLS 8 [3, 5] (R 24) (R 25) (Ra 22) gc.toInt gn.toInt := fun h9 => hC9.low (N := gc.toInt.toNat) (by omega) (hE9 h9).2.1 (hE9 h9).2.2
                    have hX9120 : v9117.toInt = 0 → WFX (R 24) (R 25) gc v9119 := fun h9 => ⟨by omega, by omega, by omega, (hE9 h9).1⟩
                    refine lv_aload_n hx hb dX13_readLaw_135 rfl (lv_at hl 3 rfl) ?_
                    refine mz_getR hx hb htl hown hK hM 22 (Nat.le_of_ble_eq_true rfl) (Nat.le_of_ble_eq_true rfl) (htl _ mw_197) (fun _ h9 => h9) dX13_readLaw_136 ?_
                    refine lv_iload_n hx hb dX13_readLaw_139 rfl (lv_at hl 1 rfl) ?_
                    refine lv_iconst (v := 4) hx hb dX13_readLaw_140 (by decide) ?_
                    refine lv_iadd hx hb dX13_readLaw_141 ?_
                    refine tk_add rfl (show (4 : Int32).toInt = 4 by decide) (by omega) (by omega) (fun v9121 h_v9121 => ?_)
                    refine lv_aload_n hx hb dX13_readLaw_142 rfl (lv_at hl 3 rfl) ?_
                    refine mz_getI hx hb htl hown hK hM 23 (Nat.le_of_ble_eq_true rfl) rfl (htl _ mw_670) (fun _ h9 => h9) dX13_readLaw_143 (fun v9 e9 => ?_)
                    refine fx_ti (v := v9119) (e9.symm.trans hf9118) ?_
                    refine mz_iast (x := v9119) hx hb hK hD hM hS 22 (Nat.le_of_ble_eq_true rfl) rfl (nn := 96) rfl rfl (by omega) (by omega) dX13_readLaw_146 (fun H locs R hM hS hw9 hj9 => ?_)
                    have hIR := hIR.put hw9 hj9 trivial
                    have hL22 : low (8 * gn.toInt.toNat) (Ra 22) (R 22) := fun j hj => by rw [hw9, pk_un (fun h9 => by have h8 := tk_nat (i := v9121) rfl (by omega); omega)]; exact hL22 j hj
                    have h22_0 : R 22 (8 * gn.toInt.toNat + 0) = v1067 := by rw [hw9, pk_un (fun h9 => by have h8 := tk_nat (i := v9121) rfl (by omega); omega)]; exact h22_0
                    have h22_3 : R 22 (8 * gn.toInt.toNat + 3) = gc := by rw [hw9, pk_un (fun h9 => by have h8 := tk_nat (i := v9121) rfl (by omega); omega)]; exact h22_3
                    have hC9 := hC
                    have hC : v9117.toInt = 0 → CLS 8 [3, 5] (R 24) (R 25) (Ra 22) gc.toInt gn.toInt := fun h9 => (hC9 (by omega)).to (hj9 24 (by decide)) (hj9 25 (by decide))
                    have hX91209 := hX9120
                    have hX9120 : v9117.toInt = 0 → WFX (R 24) (R 25) gc v9119 := fun h9 => by rw [hj9 24 (by decide), hj9 25 (by decide)]; exact hX91209 (by omega)
                    have h22_4 : R 22 (8 * gn.toInt.toNat + 4) = v9119 := by rw [hw9, show 8 * gn.toInt.toNat + 4 = (v9121 : Int32).toNatClampNeg by show _ = v9121.toInt.toNat; omega]; exact pk_us
                    have hRR := mz_frp (K := [22, 24, 25, 27, 28]) (Fa := Ra) hj9 hRR (by decide)
                    refine lv_aload_n hx hb dX13_readLaw_147 rfl (lv_at hl 3 rfl) ?_
                    refine mz_getR hx hb htl hown hK hM 22 (Nat.le_of_ble_eq_true rfl) (Nat.le_of_ble_eq_true rfl) (htl _ mw_197) (fun _ h9 => h9) dX13_readLaw_148 ?_
                    refine lv_iload_n hx hb dX13_readLaw_151 rfl (lv_at hl 1 rfl) ?_
                    refine lv_iconst (v := 5) hx hb dX13_readLaw_152 (by decide) ?_
                    refine lv_iadd hx hb dX13_readLaw_153 ?_
                    refine tk_add rfl (show (5 : Int32).toInt = 5 by decide) (by omega) (by omega) (fun v9123 h_v9123 => ?_)
                    refine lv_aload_n hx hb dX13_readLaw_154 rfl (lv_at hl 3 rfl) ?_
                    refine mz_getI hx hb htl hown hK hM 23 (Nat.le_of_ble_eq_true rfl) rfl (htl _ mw_670) (fun _ h9 => h9) dX13_readLaw_155 (fun v9 e9 => ?_)
                    refine fx_ti (v := v9119) (e9.symm.trans hf9118) ?_
                    refine mz_iast (x := v9119) hx hb hK hD hM hS 22 (Nat.le_of_ble_eq_true rfl) rfl (nn := 96) rfl rfl (by omega) (by omega) dX13_readLaw_158 (fun H locs R hM hS hw9 hj9 => ?_)
                    have hIR := hIR.put hw9 hj9 trivial
                    have hL22 : low (8 * gn.toInt.toNat) (Ra 22) (R 22) := fun j hj => by rw [hw9, pk_un (fun h9 => by have h8 := tk_nat (i := v9123) rfl (by omega); omega)]; exact hL22 j hj
                    have h22_0 : R 22 (8 * gn.toInt.toNat + 0) = v1067 := by rw [hw9, pk_un (fun h9 => by have h8 := tk_nat (i := v9123) rfl (by omega); omega)]; exact h22_0
                    have h22_3 : R 22 (8 * gn.toInt.toNat + 3) = gc := by rw [hw9, pk_un (fun h9 => by have h8 := tk_nat (i := v9123) rfl (by omega); omega)]; exact h22_3
                    have h22_4 : R 22 (8 * gn.toInt.toNat + 4) = v9119 := by rw [hw9, pk_un (fun h9 => by have h8 := tk_nat (i := v9123) rfl (by omega); omega)]; exact h22_4
                    have hC9 := hC
                    have hC : v9117.toInt = 0 → CLS 8 [3, 5] (R 24) (R 25) (Ra 22) gc.toInt gn.toInt := fun h9 => (hC9 (by omega)).to (hj9 24 (by decide)) (hj9 25 (by decide))
                    have hX91209 := hX9120
                    have hX9120 : v9117.toInt = 0 → WFX (R 24) (R 25) gc v9119 := fun h9 => by rw [hj9 24 (by decide), hj9 25 (by decide)]; exact hX91209 (by omega)
                    have h22_5 : R 22 (8 * gn.toInt.toNat + 5) = v9119 := by rw [hw9, show 8 * gn.toInt.toNat + 5 = (v9123 : Int32).toNatClampNeg by show _ = v9123.toInt.toNat; omega]; exact pk_us
                    have hRR := mz_frp (K := [22, 24, 25, 27, 28]) (Fa := Ra) hj9 hRR (by decide)
                    refine lv_aload_n hx hb dX13_readLaw_159 rfl (lv_at hl 3 rfl) ?_
                    refine mz_getI hx hb htl hown hK hM 19 (Nat.le_of_ble_eq_true rfl) rfl (htl _ mw_668) (fun _ h9 => h9) dX13_readLaw_160 (fun v9 e9 => ?_)
                    refine fx_ti (v := v9117) (e9.symm.trans hf9116) ?_
                    refine lv_if_ne (tgt := 185) hx hb dX13_readLaw_163 (by decide) (fun c9 => ?_) (fun c9 => ?_)
                    · have hc9125 : ¬ (v9117.toInt = 0) := fun h9 => c9 ((fi_eq rfl (show (0 : Int32).toInt = 0 by decide)).mpr h9)
                      refine lv_aload_n hx hb dX13_readLaw_185 rfl (lv_at hl 3 rfl) ?_
                      refine mz_getR hx hb htl hown hK hM 22 (Nat.le_of_ble_eq_true rfl) (Nat.le_of_ble_eq_true rfl) (htl _ mw_197) (fun _ h9 => h9) dX13_readLaw_186 ?_
                      refine lv_iload_n hx hb dX13_readLaw_189 rfl (lv_at hl 1 rfl) ?_
                      refine lv_bipush (v := 6) hx hb dX13_readLaw_190 (by decide) ?_
                      refine lv_iadd hx hb dX13_readLaw_192 ?_
                      refine tk_add rfl (show (6 : Int32).toInt = 6 by decide) (by omega) (by omega) (fun v9126 h_v9126 => ?_)
                      refine lv_aload_n hx hb dX13_readLaw_193 rfl (lv_at hl 3 rfl) ?_
                      refine mz_getI hx hb htl hown hK hM 23 (Nat.le_of_ble_eq_true rfl) rfl (htl _ mw_670) (fun _ h9 => h9) dX13_readLaw_194 (fun v9 e9 => ?_)
                      refine fx_ti (v := v9119) (e9.symm.trans hf9118) ?_
                      refine mz_iast (x := v9119) hx hb hK hD hM hS 22 (Nat.le_of_ble_eq_true rfl) rfl (nn := 96) rfl rfl (by omega) (by omega) dX13_readLaw_197 (fun H locs R hM hS hw9 hj9 => ?_)
                      have hIR := hIR.put hw9 hj9 trivial
                      have hL22 : low (8 * gn.toInt.toNat) (Ra 22) (R 22) := fun j hj => by rw [hw9, pk_un (fun h9 => by have h8 := tk_nat (i := v9126) rfl (by omega); omega)]; exact hL22 j hj
                      have h22_0 : R 22 (8 * gn.toInt.toNat + 0) = v1067 := by rw [hw9, pk_un (fun h9 => by have h8 := tk_nat (i := v9126) rfl (by omega); omega)]; exact h22_0
                      have h22_3 : R 22 (8 * gn.toInt.toNat + 3) = gc := by rw [hw9, pk_un (fun h9 => by have h8 := tk_nat (i := v9126) rfl (by omega); omega)]; exact h22_3
                      have h22_4 : R 22 (8 * gn.toInt.toNat + 4) = v9119 := by rw [hw9, pk_un (fun h9 => by have h8 := tk_nat (i := v9126) rfl (by omega); omega)]; exact h22_4
                      have h22_5 : R 22 (8 * gn.toInt.toNat + 5) = v9119 := by rw [hw9, pk_un (fun h9 => by have h8 := tk_nat (i := v9126) rfl (by omega); omega)]; exact h22_5
                      have hC9 := hC
                      have hC : v9117.toInt = 0 → CLS 8 [3, 5] (R 24) (R 25) (Ra 22) gc.toInt gn.toInt := fun h9 => (hC9 (by omega)).to (hj9 24 (by decide)) (hj9 25 (by decide))
                      have hX91209 := hX9120
                      have hX9120 : v9117.toInt = 0 → WFX (R 24) (R 25) gc v9119 := fun h9 => by rw [hj9 24 (by decide), hj9 25 (by decide)]; exact hX91209 (by omega)
                      have h22_6 : R 22 (8 * gn.toInt.toNat + 6) = v9119 := by rw [hw9, show 8 * gn.toInt.toNat + 6 = (v9126 : Int32).toNatClampNeg by show _ = v9126.toInt.toNat; omega]; exact pk_us
                      have hRR := mz_frp (K := [22, 24, 25, 27, 28]) (Fa := Ra) hj9 hRR (by decide)
                      exact mz_vret hx hb hr hlocks ⟨hIF, hIG, hIR, hFF, hRR, hGG, (by rw [hf9108, hf9110]; omega), (by rw [hf9110]; omega), (by rw [hf9108, hf9110, hf9112]; omega), (by rw [hf9108, hf9110, hf9112, hf9114]; omega), (by rw [hf9108]; omega), (by rw [hf9118]; omega), (by rw [hf9108, hf9118]; omega), (by rw [hf9116]; omega), (by rw [hf9108, hf9116]; omega), (by rw [hf9116]; exact fun h9 => absurd h9 (by omega))⟩ hM hS dX13_readLaw_198
                    · have hc9125 : v9117.toInt = 0 := (fi_eq rfl (show (0 : Int32).toInt = 0 by decide)).mp c9
                      refine lv_aload_n hx hb dX13_readLaw_166 rfl (lv_at hl 3 rfl) ?_
                      refine lv_ldc2 hx hb hown (htl _ mw_705) dX13_readLaw_167 ?_
                      have hk_294 : (294 : Int64).toInt = 294 := by decide
                      refine mz_Vj (As := [.long 294]) (rest := []) ⟨hx, hb, hml, hown, hts⟩ hK hM hS (k_X13_isWord l D cy ld ad am hD _ _ _ _ 294 v9113 w9115 hIF hIG hIR hf9112 hf9114) ⟨callB_of 1 hts (wl_in mw_709) rfl rfl rfl (htl _ mw_5) (htl _ mw_706) hd_yX13_isWord ⟨(Nat.le_of_ble_eq_true rfl), (Nat.le_of_ble_eq_true rfl)⟩, htl _ mw_707, htl _ mw_708⟩ rfl hl.1 rfl (Nat.le_of_ble_eq_true rfl) dX13_readLaw_170 ⟨(Nat.le_of_ble_eq_true rfl), (Nat.le_of_ble_eq_true rfl)⟩ (fun v9128 H locs hpo hM hS => ?_)
                      obtain ⟨hpo9129, hpo9130, hpo9131, hpo9132, hpo9133⟩ := hpo
                      have hq_v9128 := tk_rng v9128
                      refine lv_if_eq (tgt := 185) hx hb dX13_readLaw_173 (by decide) (fun c9 => ?_) (fun c9 => ?_)
                      · have hc9135 : v9128.toInt = 0 := (fi_eq rfl (show (0 : Int32).toInt = 0 by decide)).mp c9
                        refine lv_aload_n hx hb dX13_readLaw_185 rfl (lv_at hl 3 rfl) ?_
                        refine mz_getR hx hb htl hown hK hM 22 (Nat.le_of_ble_eq_true rfl) (Nat.le_of_ble_eq_true rfl) (htl _ mw_197) (fun _ h9 => h9) dX13_readLaw_186 ?_
                        refine lv_iload_n hx hb dX13_readLaw_189 rfl (lv_at hl 1 rfl) ?_
                        refine lv_bipush (v := 6) hx hb dX13_readLaw_190 (by decide) ?_
                        refine lv_iadd hx hb dX13_readLaw_192 ?_
                        refine tk_add rfl (show (6 : Int32).toInt = 6 by decide) (by omega) (by omega) (fun v9136 h_v9136 => ?_)
                        refine lv_aload_n hx hb dX13_readLaw_193 rfl (lv_at hl 3 rfl) ?_
                        refine mz_getI hx hb htl hown hK hM 23 (Nat.le_of_ble_eq_true rfl) rfl (htl _ mw_670) (fun _ h9 => h9) dX13_readLaw_194 (fun v9 e9 => ?_)
                        refine fx_ti (v := v9119) (e9.symm.trans hf9118) ?_
                        refine mz_iast (x := v9119) hx hb hK hD hM hS 22 (Nat.le_of_ble_eq_true rfl) rfl (nn := 96) rfl rfl (by omega) (by omega) dX13_readLaw_197 (fun H locs R hM hS hw9 hj9 => ?_)
                        have hIR := hIR.put hw9 hj9 trivial
                        have hL22 : low (8 * gn.toInt.toNat) (Ra 22) (R 22) := fun j hj => by rw [hw9, pk_un (fun h9 => by have h8 := tk_nat (i := v9136) rfl (by omega); omega)]; exact hL22 j hj
                        have h22_0 : R 22 (8 * gn.toInt.toNat + 0) = v1067 := by rw [hw9, pk_un (fun h9 => by have h8 := tk_nat (i := v9136) rfl (by omega); omega)]; exact h22_0
                        have h22_3 : R 22 (8 * gn.toInt.toNat + 3) = gc := by rw [hw9, pk_un (fun h9 => by have h8 := tk_nat (i := v9136) rfl (by omega); omega)]; exact h22_3
                        have h22_4 : R 22 (8 * gn.toInt.toNat + 4) = v9119 := by rw [hw9, pk_un (fun h9 => by have h8 := tk_nat (i := v9136) rfl (by omega); omega)]; exact h22_4
                        have h22_5 : R 22 (8 * gn.toInt.toNat + 5) = v9119 := by rw [hw9, pk_un (fun h9 => by have h8 := tk_nat (i := v9136) rfl (by omega); omega)]; exact h22_5
                        have hC9 := hC
                        have hC : v9117.toInt = 0 → CLS 8 [3, 5] (R 24) (R 25) (Ra 22) gc.toInt gn.toInt := fun h9 => (hC9 (by omega)).to (hj9 24 (by decide)) (hj9 25 (by decide))
                        have hX91209 := hX9120
                        have hX9120 : v9117.toInt = 0 → WFX (R 24) (R 25) gc v9119 := fun h9 => by rw [hj9 24 (by decide), hj9 25 (by decide)]; exact hX91209 (by omega)
                        have h22_6 : R 22 (8 * gn.toInt.toNat + 6) = v9119 := by rw [hw9, show 8 * gn.toInt.toNat + 6 = (v9136 : Int32).toNatClampNeg by show _ = v9136.toInt.toNat; omega]; exact pk_us
                        have hRR := mz_frp (K := [22, 24, 25, 27, 28]) (Fa := Ra) hj9 hRR (by decide)
                        exact mz_vret hx hb hr hlocks ⟨hIF, hIG, hIR, hFF, hRR, hGG, (by rw [hf9108, hf9110]; omega), (by rw [hf9110]; omega), (by rw [hf9108, hf9110, hf9112]; omega), (by rw [hf9108, hf9110, hf9112, hf9114]; omega), (by rw [hf9108]; omega), (by rw [hf9118]; omega), (by rw [hf9108, hf9118]; omega), (by rw [hf9116]; omega), (by rw [hf9108, hf9116]; omega), (by rw [hf9116, hf9118, hf9043]; exact fun h9 => CLS.snoc (N := gn.toInt.toNat) (hC h9) (by omega) (by omega) hL22 (by decide) (by omega) (by intro d hd; simp only [List.mem_cons, List.not_mem_nil, or_false] at hd; rcases hd with rfl | rfl <;> first | (rw [show 8 * gn.toInt.toNat + 3 + 1 = 8 * gn.toInt.toNat + 4 from rfl, h22_3, h22_4]; exact ⟨hX9120 h9, by omega⟩) | (rw [show 8 * gn.toInt.toNat + 5 + 1 = 8 * gn.toInt.toNat + 6 from rfl, h22_5, h22_6]; exact ⟨WFX.nil (by omega) (by omega), by omega⟩)))⟩ hM hS dX13_readLaw_198
                      · have hc9135 : ¬ (v9128.toInt = 0) := fun h9 => c9 ((fi_eq rfl (show (0 : Int32).toInt = 0 by decide)).mpr h9)
                        refine lv_aload_n hx hb dX13_readLaw_176 rfl (lv_at hl 3 rfl) ?_
                        refine mz_Vv (As := []) (rest := []) ⟨hx, hb, hml, hown, hts⟩ hK hM hS (k_X13_next l D cy ld ad am hD _ _ _ _ v9111 gp hIF hIG hIR hf9110 hg_3 (by omega)) ⟨callB_of 0 hts (wl_in mw_685) rfl rfl rfl (htl _ mw_5) (htl _ mw_682) hd_yX13_next ⟨(Nat.le_of_ble_eq_true rfl), (Nat.le_of_ble_eq_true rfl)⟩, htl _ mw_683, htl _ mw_684⟩ rfl hl.1 rfl (Nat.le_of_ble_eq_true rfl) dX13_readLaw_177 ⟨(Nat.le_of_ble_eq_true rfl), (Nat.le_of_ble_eq_true rfl)⟩ (fun H locs F G R S hpo hM hS => ?_)
                        obtain ⟨hIF, hIG, hIR, hfr9, hrr9, hgr9, hpo9138, hpo9139, hpo9140, hpo9141, hpo9142⟩ := hpo
                        have hFF := mz_fr (K := [14, 15, 16, 18, 19, 21, 23, 26, 29, 30]) (Fa := Fa) hfr9 hFF (by decide)
                        have hRR := mz_fr (K := [22, 24, 25, 27, 28]) (Fa := Ra) hrr9 hRR (by decide)
                        have hGG := mz_fr (K := [17]) (Fa := Ga) hgr9 hGG (by decide)
                        have hg_3 := (hfr9 13 (by decide)).trans hg_3
                        have hf9043 := (hfr9 21 (by decide)).trans hf9043
                        have hf9116 := (hfr9 19 (by decide)).trans hf9116
                        have hf9118 := (hfr9 23 (by decide)).trans hf9118
                        obtain ⟨v9145, hf9144⟩ : ∃ z : Int32, F 14 = z := ⟨_, rfl⟩
                        have hq_v9145 := tk_rng v9145
                        rw [hf9144] at hpo9138 hpo9139 hpo9141 hpo9142
                        have hr_v9145 : 0 ≤ v9145.toInt ∧ v9145.toInt ≤ 400 := hIF.at hf9144
                        obtain ⟨v9147, hf9146⟩ : ∃ z : Int32, F 15 = z := ⟨_, rfl⟩
                        have hq_v9147 := tk_rng v9147
                        rw [hf9146] at hpo9139 hpo9140 hpo9141 hpo9142
                        have hr_v9147 : 0 ≤ v9147.toInt ∧ v9147.toInt ≤ 400 := hIF.at hf9146
                        obtain ⟨v9149, hf9148⟩ : ∃ z : Int32, F 16 = z := ⟨_, rfl⟩
                        have hq_v9149 := tk_rng v9149
                        rw [hf9148] at hpo9141 hpo9142
                        have hr_v9149 : 0 ≤ v9149.toInt ∧ v9149.toInt ≤ 3 := hIF.at hf9148
                        obtain ⟨w9151, hf9150⟩ : ∃ z : Int64, G 17 = z := ⟨_, rfl⟩
                        have hq_w9151 := tk_rngL w9151
                        rw [hf9150] at hpo9142
                        have hL22 := hL22.to (hrr9 22 (by decide))
                        have h22_0 := (congrFun (hrr9 22 (by decide)) _).trans h22_0
                        have h22_3 := (congrFun (hrr9 22 (by decide)) _).trans h22_3
                        have h22_4 := (congrFun (hrr9 22 (by decide)) _).trans h22_4
                        have h22_5 := (congrFun (hrr9 22 (by decide)) _).trans h22_5
                        have hC9 := hC
                        have hC : v9117.toInt = 0 → CLS 8 [3, 5] (R 24) (R 25) (Ra 22) gc.toInt gn.toInt := fun h9 => (hC9 (by omega)).to (hrr9 24 (by decide)) (hrr9 25 (by decide))
                        have hX91209 := hX9120
                        have hX9120 : v9117.toInt = 0 → WFX (R 24) (R 25) gc v9119 := fun h9 => by rw [hrr9 24 (by decide), hrr9 25 (by decide)]; exact hX91209 (by omega)
                        refine lv_aload_n hx hb dX13_readLaw_180 rfl (lv_at hl 3 rfl) ?_
                        refine lv_iconst (v := 1) hx hb dX13_readLaw_181 (by decide) ?_
                        have hk_1 : (1 : Int32).toInt = 1 := by decide
                        refine mz_Vv (As := [.int 1]) (rest := []) ⟨hx, hb, hml, hown, hts⟩ hK hM hS (k_X13_readExpression l D cy ld ad am hD _ _ _ _ 1 v9145 v9147 v9149 gp w9151 v9117 v9119 hIF hIG hIR hf9144 hf9146 hf9148 hg_3 hf9150 hf9116 hf9118 (by omega) (by omega) (by omega) (by omega) (by omega) (by omega) (by omega) (by omega)) ⟨callB_of 1 hts (wl_in mw_717) rfl rfl rfl (htl _ mw_5) (htl _ mw_714) hd_yX13_readExpression ⟨(Nat.le_of_ble_eq_true rfl), (Nat.le_of_ble_eq_true rfl)⟩, htl _ mw_715, htl _ mw_716⟩ rfl hl.1 rfl (Nat.le_of_ble_eq_true rfl) dX13_readLaw_182 ⟨(Nat.le_of_ble_eq_true rfl), (Nat.le_of_ble_eq_true rfl)⟩ (fun H locs F G R S hpo hM hS => ?_)
                        obtain ⟨hIF, hIG, hIR, hfr9, hrr9, hgr9, hpo9152, hpo9153, hpo9154, hpo9155, hpo9156, hpo9157, hpo9158, hx9159⟩ := hpo
                        have hFF := mz_fr (K := [14, 15, 16, 18, 19, 21, 23, 26, 29, 30]) (Fa := Fa) hfr9 hFF (by decide)
                        have hRR := mz_fr (K := [22, 24, 25, 27, 28]) (Fa := Ra) hrr9 hRR (by decide)
                        have hGG := mz_fr (K := [17]) (Fa := Ga) hgr9 hGG (by decide)
                        have hg_3 := (hfr9 13 (by decide)).trans hg_3
                        have hf9043 := (hfr9 21 (by decide)).trans hf9043
                        obtain ⟨v9162, hf9161⟩ : ∃ z : Int32, F 14 = z := ⟨_, rfl⟩
                        have hq_v9162 := tk_rng v9162
                        rw [hf9161] at hpo9152 hpo9154 hpo9155 hpo9156 hpo9157
                        have hr_v9162 : 0 ≤ v9162.toInt ∧ v9162.toInt ≤ 400 := hIF.at hf9161
                        obtain ⟨v9164, hf9163⟩ : ∃ z : Int32, F 15 = z := ⟨_, rfl⟩
                        have hq_v9164 := tk_rng v9164
                        rw [hf9163] at hpo9152 hpo9153 hpo9154 hpo9155
                        have hr_v9164 : 0 ≤ v9164.toInt ∧ v9164.toInt ≤ 400 := hIF.at hf9163
                        obtain ⟨v9166, hf9165⟩ : ∃ z : Int32, F 16 = z := ⟨_, rfl⟩
                        have hq_v9166 := tk_rng v9166
                        rw [hf9165] at hpo9154 hpo9155
                        have hr_v9166 : 0 ≤ v9166.toInt ∧ v9166.toInt ≤ 3 := hIF.at hf9165
                        obtain ⟨w9168, hf9167⟩ : ∃ z : Int64, G 17 = z := ⟨_, rfl⟩
                        have hq_w9168 := tk_rngL w9168
                        rw [hf9167] at hpo9155
                        obtain ⟨v9170, hf9169⟩ : ∃ z : Int32, F 19 = z := ⟨_, rfl⟩
                        have hq_v9170 := tk_rng v9170
                        have hr_v9170 : 0 ≤ v9170.toInt ∧ v9170.toInt ≤ 1 := hIF.at hf9169
                        obtain ⟨v9172, hf9171⟩ : ∃ z : Int32, F 23 = z := ⟨_, rfl⟩
                        have hq_v9172 := tk_rng v9172
                        rw [hf9171] at hpo9157 hpo9158
                        have hr_v9172 : 0 ≤ v9172.toInt ∧ v9172.toInt ≤ 400 := hIF.at hf9171
                        have hL22 := hL22.to (hrr9 22 (by decide))
                        have h22_0 := (congrFun (hrr9 22 (by decide)) _).trans h22_0
                        have h22_3 := (congrFun (hrr9 22 (by decide)) _).trans h22_3
                        have h22_4 := (congrFun (hrr9 22 (by decide)) _).trans h22_4
                        have h22_5 := (congrFun (hrr9 22 (by decide)) _).trans h22_5
                        have hE9 : v9170.toInt = 0 → WFC (R 24) (R 25) v9119.toInt.toNat v9172.toInt.toNat ∧ low v9119.toInt.toNat _ (R 24) ∧ low v9119.toInt.toNat _ (R 25) := fun h9 => by have h8 := hx9159 (by rw [hf9169]; exact h9); rw [hf9171] at h8; exact h8
                        have hC9 := hC (by omega)
                        have hC : v9170.toInt = 0 → CLS 8 [3, 5] (R 24) (R 25) (Ra 22) gc.toInt gn.toInt := fun h9 => hC9.low (N := v9119.toInt.toNat) (by omega) (hE9 h9).2.1 (hE9 h9).2.2
                        have hX91209 := hX9120 (by omega)
                        have hX9120 : v9170.toInt = 0 → WFX (R 24) (R 25) gc v9119 := fun h9 => hX91209.low (n := v9119.toInt.toNat) (by omega) (hE9 h9).2.1 (hE9 h9).2.2
                        have hX9173 : v9170.toInt = 0 → WFX (R 24) (R 25) v9119 v9172 := fun h9 => ⟨by omega, by omega, by omega, (hE9 h9).1⟩
                        refine lv_aload_n hx hb dX13_readLaw_185 rfl (lv_at hl 3 rfl) ?_
                        refine mz_getR hx hb htl hown hK hM 22 (Nat.le_of_ble_eq_true rfl) (Nat.le_of_ble_eq_true rfl) (htl _ mw_197) (fun _ h9 => h9) dX13_readLaw_186 ?_
                        refine lv_iload_n hx hb dX13_readLaw_189 rfl (lv_at hl 1 rfl) ?_
                        refine lv_bipush (v := 6) hx hb dX13_readLaw_190 (by decide) ?_
                        refine lv_iadd hx hb dX13_readLaw_192 ?_
                        refine tk_add rfl (show (6 : Int32).toInt = 6 by decide) (by omega) (by omega) (fun v9174 h_v9174 => ?_)
                        refine lv_aload_n hx hb dX13_readLaw_193 rfl (lv_at hl 3 rfl) ?_
                        refine mz_getI hx hb htl hown hK hM 23 (Nat.le_of_ble_eq_true rfl) rfl (htl _ mw_670) (fun _ h9 => h9) dX13_readLaw_194 (fun v9 e9 => ?_)
                        refine fx_ti (v := v9172) (e9.symm.trans hf9171) ?_
                        refine mz_iast (x := v9172) hx hb hK hD hM hS 22 (Nat.le_of_ble_eq_true rfl) rfl (nn := 96) rfl rfl (by omega) (by omega) dX13_readLaw_197 (fun H locs R hM hS hw9 hj9 => ?_)
                        have hIR := hIR.put hw9 hj9 trivial
                        have hL22 : low (8 * gn.toInt.toNat) (Ra 22) (R 22) := fun j hj => by rw [hw9, pk_un (fun h9 => by have h8 := tk_nat (i := v9174) rfl (by omega); omega)]; exact hL22 j hj
                        have h22_0 : R 22 (8 * gn.toInt.toNat + 0) = v1067 := by rw [hw9, pk_un (fun h9 => by have h8 := tk_nat (i := v9174) rfl (by omega); omega)]; exact h22_0
                        have h22_3 : R 22 (8 * gn.toInt.toNat + 3) = gc := by rw [hw9, pk_un (fun h9 => by have h8 := tk_nat (i := v9174) rfl (by omega); omega)]; exact h22_3
                        have h22_4 : R 22 (8 * gn.toInt.toNat + 4) = v9119 := by rw [hw9, pk_un (fun h9 => by have h8 := tk_nat (i := v9174) rfl (by omega); omega)]; exact h22_4
                        have h22_5 : R 22 (8 * gn.toInt.toNat + 5) = v9119 := by rw [hw9, pk_un (fun h9 => by have h8 := tk_nat (i := v9174) rfl (by omega); omega)]; exact h22_5
                        have hC9 := hC
                        have hC : v9170.toInt = 0 → CLS 8 [3, 5] (R 24) (R 25) (Ra 22) gc.toInt gn.toInt := fun h9 => (hC9 (by omega)).to (hj9 24 (by decide)) (hj9 25 (by decide))
                        have hX91209 := hX9120
                        have hX9120 : v9170.toInt = 0 → WFX (R 24) (R 25) gc v9119 := fun h9 => by rw [hj9 24 (by decide), hj9 25 (by decide)]; exact hX91209 (by omega)
                        have hX91739 := hX9173
                        have hX9173 : v9170.toInt = 0 → WFX (R 24) (R 25) v9119 v9172 := fun h9 => by rw [hj9 24 (by decide), hj9 25 (by decide)]; exact hX91739 (by omega)
                        have h22_6 : R 22 (8 * gn.toInt.toNat + 6) = v9172 := by rw [hw9, show 8 * gn.toInt.toNat + 6 = (v9174 : Int32).toNatClampNeg by show _ = v9174.toInt.toNat; omega]; exact pk_us
                        have hRR := mz_frp (K := [22, 24, 25, 27, 28]) (Fa := Ra) hj9 hRR (by decide)
                        exact mz_vret hx hb hr hlocks ⟨hIF, hIG, hIR, hFF, hRR, hGG, (by rw [hf9161, hf9163]; omega), (by rw [hf9163]; omega), (by rw [hf9161, hf9163, hf9165]; omega), (by rw [hf9161, hf9163, hf9165, hf9167]; omega), (by rw [hf9161]; omega), (by rw [hf9171]; omega), (by rw [hf9161, hf9171]; omega), (by rw [hf9169]; omega), (by rw [hf9161, hf9169]; omega), (by rw [hf9169, hf9171, hf9043]; exact fun h9 => CLS.snoc (N := gn.toInt.toNat) (hC h9) (by omega) (by omega) hL22 (by decide) (by omega) (by intro d hd; simp only [List.mem_cons, List.not_mem_nil, or_false] at hd; rcases hd with rfl | rfl <;> first | (rw [show 8 * gn.toInt.toNat + 3 + 1 = 8 * gn.toInt.toNat + 4 from rfl, h22_3, h22_4]; exact ⟨hX9120 h9, by omega⟩) | (rw [show 8 * gn.toInt.toNat + 5 + 1 = 8 * gn.toInt.toNat + 6 from rfl, h22_5, h22_6]; exact ⟨hX9173 h9, by omega⟩)))⟩ hM hS dX13_readLaw_198
                · have hc9039 : ¬ (8 ≤ v8193.toInt) := fun h9 => c9 ((fi_le (show (8 : Int32).toInt = 8 by decide) rfl).mpr h9)
                  refine lv_aload_n hx hb dX13_readLaw_81 rfl (lv_at hl 3 rfl) ?_
                  refine mz_getR hx hb htl hown hK hM 22 (Nat.le_of_ble_eq_true rfl) (Nat.le_of_ble_eq_true rfl) (htl _ mw_197) (fun _ h9 => h9) dX13_readLaw_82 ?_
                  refine lv_iload_n hx hb dX13_readLaw_85 rfl (lv_at hl 1 rfl) ?_
                  refine lv_iload_n hx hb dX13_readLaw_86 rfl (lv_at hl 0 rfl) ?_
                  refine lv_iadd hx hb dX13_readLaw_87 ?_
                  refine tk_add rfl rfl (by omega) (by omega) (fun v9176 h_v9176 => ?_)
                  refine lv_iconst (v := 0) hx hb dX13_readLaw_88 (by decide) ?_
                  have hk_0 : (0 : Int32).toInt = 0 := by decide
                  refine mz_iast (x := 0) hx hb hK hD hM hS 22 (Nat.le_of_ble_eq_true rfl) rfl (nn := 96) rfl rfl (by omega) (by omega) dX13_readLaw_89 (fun H locs R hM hS hw9 hj9 => ?_)
                  have hIR := hIR.put hw9 hj9 trivial
                  have hL22 : low (8 * gn.toInt.toNat) (Ra 22) (R 22) := fun j hj => by rw [hw9, pk_un (fun h9 => by have h8 := tk_nat (i := v9176) rfl (by omega); omega)]; exact hL22 j hj
                  have hC9 := hC
                  have hC : v8191.toInt = 0 → CLS 8 [3, 5] (R 24) (R 25) (Ra 22) gc.toInt gn.toInt := fun h9 => (hC9 (by omega)).to (hj9 24 (by decide)) (hj9 25 (by decide))
                  have hRR := mz_frp (K := [22, 24, 25, 27, 28]) (Fa := Ra) hj9 hRR (by decide)
                  obtain ⟨v9178, h_v9178, e_v9178⟩ := tk_inc v8193 1 (by decide) (by omega) (by omega)
                  refine lv_iinc (v := v9178) (lv' := [(3, .int v9178), (2, .int v8192), (1, .int v1067), (0, .ref am)]) hx hb dX13_readLaw_90 hl (k := 0) rfl e_v9178 (by decide) rfl (fun ls hl => ?_)
                  refine lv_goto (tgt := 75) hx hb dX13_readLaw_93 (by decide) ?_
                  exact ih_l9038 v9178 _ _ _ (by omega) (by omega) hM hS hIR hRR hL22 hC (by omega) _ (lv_sub hl [0, 1, 2, 3] rfl)
            have hk_0 : (0 : Int32).toInt = 0 := by decide
            exact hl9038 9 0 _ _ _ (by omega) (by omega) hM hS hIR hRR hL22 hC (by omega) _ (lv_sub hl [0, 1, 2, 3] rfl)
      · have hc8130 : ¬ (4 ≤ v1066.toInt) := fun h9 => c9 ((fi_le (show (4 : Int32).toInt = 4 by decide) rfl).mpr h9)
        refine lv_aload_n hx hb dX13_readLaw_9 rfl (lv_at hl 2 rfl) ?_
        refine lv_aload_n hx hb dX13_readLaw_10 rfl (lv_at hl 2 rfl) ?_
        refine mz_getR hx hb htl hown hK hM 33 (Nat.le_of_ble_eq_true rfl) (Nat.le_of_ble_eq_true rfl) (htl _ mw_222) (fun _ h9 => h9) dX13_readLaw_11 ?_
        refine lv_iload_n hx hb dX13_readLaw_14 rfl (lv_at hl 0 rfl) ?_
        refine mz_lald hx hb hK hM 33 (Nat.le_of_ble_eq_true rfl) rfl (nn := 4) rfl rfl (by omega) (by omega) dX13_readLaw_15 (fun w9179 _ => ?_)
        refine mz_Vj (As := [.long w9179]) (rest := []) ⟨hx, hb, hml, hown, hts⟩ hK hM hS (k_X13_isWord l D cy ld ad am hD _ _ _ _ w9179 gs gw hIF hIG hIR hg_2 hg_4) ⟨callB_of 1 hts (wl_in mw_709) rfl rfl rfl (htl _ mw_5) (htl _ mw_706) hd_yX13_isWord ⟨(Nat.le_of_ble_eq_true rfl), (Nat.le_of_ble_eq_true rfl)⟩, htl _ mw_707, htl _ mw_708⟩ rfl hl.1 rfl (Nat.le_of_ble_eq_true rfl) dX13_readLaw_16 ⟨(Nat.le_of_ble_eq_true rfl), (Nat.le_of_ble_eq_true rfl)⟩ (fun v9180 H locs hpo hM hS => ?_)
        obtain ⟨hpo9181, hpo9182, hpo9183, hpo9184, hpo9185⟩ := hpo
        have hq_v9180 := tk_rng v9180
        refine lv_if_eq (tgt := 26) hx hb dX13_readLaw_19 (by decide) (fun c9 => ?_) (fun c9 => ?_)
        · have hc9187 : v9180.toInt = 0 := (fi_eq rfl (show (0 : Int32).toInt = 0 by decide)).mp c9
          refine lv_iload_n hx hb dX13_readLaw_26 rfl (lv_at hl 1 rfl) ?_
          refine lv_istore_n (lv' := [(1, .int v1067), (2, .int v1066), (0, .ref am)]) hx hb dX13_readLaw_27 rfl hl (by decide) rfl (fun ls hl => ?_)
          obtain ⟨v9188, h_v9188, e_v9188⟩ := tk_inc v1066 1 (by decide) (by omega) (by omega)
          refine lv_iinc (v := v9188) (lv' := [(2, .int v9188), (1, .int v1067), (0, .ref am)]) hx hb dX13_readLaw_28 hl (k := 1) rfl e_v9188 (by decide) rfl (fun ls hl => ?_)
          refine lv_goto (tgt := 4) hx hb dX13_readLaw_31 (by decide) ?_
          exact ih_l8129 v9188 v1067 _ _ (by omega) (by omega) (by omega) hM hS (by omega) (by omega) _ (lv_sub hl [0, 1, 2] rfl)
        · have hc9187 : ¬ (v9180.toInt = 0) := fun h9 => c9 ((fi_eq rfl (show (0 : Int32).toInt = 0 by decide)).mpr h9)
          refine lv_iload_n hx hb dX13_readLaw_22 rfl (lv_at hl 0 rfl) ?_
          refine lv_goto (tgt := 27) hx hb dX13_readLaw_23 (by decide) ?_
          refine lv_istore_n (lv' := [(1, .int v1066), (2, .int v1066), (0, .ref am)]) hx hb dX13_readLaw_27 rfl hl (by decide) rfl (fun ls hl => ?_)
          obtain ⟨v9189, h_v9189, e_v9189⟩ := tk_inc v1066 1 (by decide) (by omega) (by omega)
          refine lv_iinc (v := v9189) (lv' := [(2, .int v9189), (1, .int v1066), (0, .ref am)]) hx hb dX13_readLaw_28 hl (k := 1) rfl e_v9189 (by decide) rfl (fun ls hl => ?_)
          refine lv_goto (tgt := 4) hx hb dX13_readLaw_31 (by decide) ?_
          exact ih_l8129 v9189 v1066 _ _ (by omega) (by omega) (by omega) hM hS (by omega) (by omega) _ (lv_sub hl [0, 1, 2] rfl)
  have hk_0 : (0 : Int32).toInt = 0 := by decide
  have hk_m1 : ((-1) : Int32).toInt = (-1) := by decide
  exact hl8129 5 0 (-1) _ _ (by omega) (by omega) (by omega) hM hS (by omega) (by omega) _ (lv_sub hl [0, 1, 2] rfl)
