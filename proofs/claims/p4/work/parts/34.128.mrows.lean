theorem hd_yX13_readExpression : yX13_readExpression.cls ≠ "java/lang/invoke/MethodHandle" ∧ yX13_readExpression.cls ≠ "java/lang/invoke/VarHandle" ∧ (parseMethodDescriptor yX13_readExpression.desc).map (fun d => d.parameters.length) = some 1 := by decide +kernel
theorem dX13_readLaw_0 : decode cX13_readLaw 0 = .ok (.iconst (-1), 1) := by decide +kernel
theorem dX13_readLaw_1 : decode cX13_readLaw 1 = .ok (.istore_n 1, 1) := by decide +kernel
theorem dX13_readLaw_2 : decode cX13_readLaw 2 = .ok (.iconst 0, 1) := by decide +kernel
theorem dX13_readLaw_3 : decode cX13_readLaw 3 = .ok (.istore_n 2, 1) := by decide +kernel
theorem dX13_readLaw_4 : decode cX13_readLaw 4 = .ok (.iload_n 2, 1) := by decide +kernel
theorem dX13_readLaw_5 : decode cX13_readLaw 5 = .ok (.iconst 4, 1) := by decide +kernel
theorem dX13_readLaw_6 : decode cX13_readLaw 6 = .ok (.if_icmp .ge 28, 3) := by decide +kernel
theorem dX13_readLaw_34 : decode cX13_readLaw 34 = .ok (.aload_n 0, 1) := by decide +kernel
theorem dX13_readLaw_35 : decode cX13_readLaw 35 = .ok (.iload_n 1, 1) := by decide +kernel
theorem dX13_readLaw_36 : decode cX13_readLaw 36 = .ok (.iconst (-1), 1) := by decide +kernel
theorem dX13_readLaw_37 : decode cX13_readLaw 37 = .ok (.if_icmp .eq 16, 3) := by decide +kernel
theorem dX13_readLaw_53 : decode cX13_readLaw 53 = .ok (.iconst 0, 1) := by decide +kernel
theorem dX13_readLaw_54 : decode cX13_readLaw 54 = .ok (.invokevirtual 271, 3) := by decide +kernel
theorem dX13_readLaw_57 : decode cX13_readLaw 57 = .ok (.aload_n 0, 1) := by decide +kernel
theorem dX13_readLaw_58 : decode cX13_readLaw 58 = .ok (.getfield 236, 3) := by decide +kernel
theorem dX13_readLaw_61 : decode cX13_readLaw 61 = .ok (.ifCond .eq 4, 3) := by decide +kernel
theorem dX13_readLaw_64 : decode cX13_readLaw 64 = .ok (.return_, 1) := by decide +kernel
theorem dX13_readLaw_40 : decode cX13_readLaw 40 = .ok (.aload_n 0, 1) := by decide +kernel
theorem dX13_readLaw_41 : decode cX13_readLaw 41 = .ok (.getfield 369, 3) := by decide +kernel
theorem dX13_readLaw_44 : decode cX13_readLaw 44 = .ok (.bipush 12, 2) := by decide +kernel
theorem dX13_readLaw_46 : decode cX13_readLaw 46 = .ok (.if_icmp .ge 7, 3) := by decide +kernel
theorem dX13_readLaw_49 : decode cX13_readLaw 49 = .ok (.iconst 1, 1) := by decide +kernel
theorem dX13_readLaw_50 : decode cX13_readLaw 50 = .ok (.goto 4, 3) := by decide +kernel
theorem dX13_readLaw_65 : decode cX13_readLaw 65 = .ok (.bipush 8, 2) := by decide +kernel
theorem dX13_readLaw_67 : decode cX13_readLaw 67 = .ok (.aload_n 0, 1) := by decide +kernel
theorem dX13_readLaw_68 : decode cX13_readLaw 68 = .ok (.getfield 369, 3) := by decide +kernel
theorem dX13_readLaw_71 : decode cX13_readLaw 71 = .ok (.imul, 1) := by decide +kernel
theorem dX13_readLaw_72 : decode cX13_readLaw 72 = .ok (.istore_n 2, 1) := by decide +kernel
theorem dX13_readLaw_73 : decode cX13_readLaw 73 = .ok (.iconst 0, 1) := by decide +kernel
theorem dX13_readLaw_74 : decode cX13_readLaw 74 = .ok (.istore_n 3, 1) := by decide +kernel
theorem dX13_readLaw_75 : decode cX13_readLaw 75 = .ok (.iload_n 3, 1) := by decide +kernel
theorem dX13_readLaw_76 : decode cX13_readLaw 76 = .ok (.bipush 8, 2) := by decide +kernel
theorem dX13_readLaw_78 : decode cX13_readLaw 78 = .ok (.if_icmp .ge 18, 3) := by decide +kernel
theorem dX13_readLaw_96 : decode cX13_readLaw 96 = .ok (.aload_n 0, 1) := by decide +kernel
theorem dX13_readLaw_97 : decode cX13_readLaw 97 = .ok (.getfield 42, 3) := by decide +kernel
theorem dX13_readLaw_100 : decode cX13_readLaw 100 = .ok (.iload_n 2, 1) := by decide +kernel
theorem dX13_readLaw_101 : decode cX13_readLaw 101 = .ok (.iload_n 1, 1) := by decide +kernel
theorem dX13_readLaw_102 : decode cX13_readLaw 102 = .ok (.iastore, 1) := by decide +kernel
theorem dX13_readLaw_103 : decode cX13_readLaw 103 = .ok (.aload_n 0, 1) := by decide +kernel
theorem dX13_readLaw_104 : decode cX13_readLaw 104 = .ok (.dup, 1) := by decide +kernel
theorem dX13_readLaw_105 : decode cX13_readLaw 105 = .ok (.getfield 369, 3) := by decide +kernel
theorem dX13_readLaw_108 : decode cX13_readLaw 108 = .ok (.iconst 1, 1) := by decide +kernel
theorem dX13_readLaw_109 : decode cX13_readLaw 109 = .ok (.iadd, 1) := by decide +kernel
theorem dX13_readLaw_110 : decode cX13_readLaw 110 = .ok (.putfield 369, 3) := by decide +kernel
theorem dX13_readLaw_113 : decode cX13_readLaw 113 = .ok (.aload_n 0, 1) := by decide +kernel
theorem dX13_readLaw_114 : decode cX13_readLaw 114 = .ok (.getfield 42, 3) := by decide +kernel
theorem dX13_readLaw_117 : decode cX13_readLaw 117 = .ok (.iload_n 2, 1) := by decide +kernel
theorem dX13_readLaw_118 : decode cX13_readLaw 118 = .ok (.iconst 3, 1) := by decide +kernel
theorem dX13_readLaw_119 : decode cX13_readLaw 119 = .ok (.iadd, 1) := by decide +kernel
theorem dX13_readLaw_120 : decode cX13_readLaw 120 = .ok (.aload_n 0, 1) := by decide +kernel
theorem dX13_readLaw_121 : decode cX13_readLaw 121 = .ok (.getfield 275, 3) := by decide +kernel
theorem dX13_readLaw_124 : decode cX13_readLaw 124 = .ok (.iastore, 1) := by decide +kernel
theorem dX13_readLaw_125 : decode cX13_readLaw 125 = .ok (.iload_n 1, 1) := by decide +kernel
theorem dX13_readLaw_126 : decode cX13_readLaw 126 = .ok (.iconst 3, 1) := by decide +kernel
theorem dX13_readLaw_127 : decode cX13_readLaw 127 = .ok (.if_icmp .eq 8, 3) := by decide +kernel
theorem dX13_readLaw_135 : decode cX13_readLaw 135 = .ok (.aload_n 0, 1) := by decide +kernel
theorem dX13_readLaw_136 : decode cX13_readLaw 136 = .ok (.getfield 42, 3) := by decide +kernel
theorem dX13_readLaw_139 : decode cX13_readLaw 139 = .ok (.iload_n 2, 1) := by decide +kernel
theorem dX13_readLaw_140 : decode cX13_readLaw 140 = .ok (.iconst 4, 1) := by decide +kernel
theorem dX13_readLaw_141 : decode cX13_readLaw 141 = .ok (.iadd, 1) := by decide +kernel
theorem dX13_readLaw_142 : decode cX13_readLaw 142 = .ok (.aload_n 0, 1) := by decide +kernel
theorem dX13_readLaw_143 : decode cX13_readLaw 143 = .ok (.getfield 275, 3) := by decide +kernel
theorem dX13_readLaw_146 : decode cX13_readLaw 146 = .ok (.iastore, 1) := by decide +kernel
theorem dX13_readLaw_147 : decode cX13_readLaw 147 = .ok (.aload_n 0, 1) := by decide +kernel
theorem dX13_readLaw_148 : decode cX13_readLaw 148 = .ok (.getfield 42, 3) := by decide +kernel
theorem dX13_readLaw_151 : decode cX13_readLaw 151 = .ok (.iload_n 2, 1) := by decide +kernel
theorem dX13_readLaw_152 : decode cX13_readLaw 152 = .ok (.iconst 5, 1) := by decide +kernel
theorem dX13_readLaw_153 : decode cX13_readLaw 153 = .ok (.iadd, 1) := by decide +kernel
theorem dX13_readLaw_154 : decode cX13_readLaw 154 = .ok (.aload_n 0, 1) := by decide +kernel
theorem dX13_readLaw_155 : decode cX13_readLaw 155 = .ok (.getfield 275, 3) := by decide +kernel
theorem dX13_readLaw_158 : decode cX13_readLaw 158 = .ok (.iastore, 1) := by decide +kernel
theorem dX13_readLaw_159 : decode cX13_readLaw 159 = .ok (.aload_n 0, 1) := by decide +kernel
theorem dX13_readLaw_160 : decode cX13_readLaw 160 = .ok (.getfield 236, 3) := by decide +kernel
theorem dX13_readLaw_163 : decode cX13_readLaw 163 = .ok (.ifCond .ne 22, 3) := by decide +kernel
theorem dX13_readLaw_166 : decode cX13_readLaw 166 = .ok (.aload_n 0, 1) := by decide +kernel
theorem dX13_readLaw_167 : decode cX13_readLaw 167 = .ok (.ldc2_w 375, 3) := by decide +kernel
theorem dX13_readLaw_170 : decode cX13_readLaw 170 = .ok (.invokevirtual 296, 3) := by decide +kernel
theorem dX13_readLaw_173 : decode cX13_readLaw 173 = .ok (.ifCond .eq 12, 3) := by decide +kernel
theorem dX13_readLaw_185 : decode cX13_readLaw 185 = .ok (.aload_n 0, 1) := by decide +kernel
theorem dX13_readLaw_186 : decode cX13_readLaw 186 = .ok (.getfield 42, 3) := by decide +kernel
theorem dX13_readLaw_189 : decode cX13_readLaw 189 = .ok (.iload_n 2, 1) := by decide +kernel
theorem dX13_readLaw_190 : decode cX13_readLaw 190 = .ok (.bipush 6, 2) := by decide +kernel
theorem dX13_readLaw_192 : decode cX13_readLaw 192 = .ok (.iadd, 1) := by decide +kernel
theorem dX13_readLaw_193 : decode cX13_readLaw 193 = .ok (.aload_n 0, 1) := by decide +kernel
theorem dX13_readLaw_194 : decode cX13_readLaw 194 = .ok (.getfield 275, 3) := by decide +kernel
theorem dX13_readLaw_197 : decode cX13_readLaw 197 = .ok (.iastore, 1) := by decide +kernel
theorem dX13_readLaw_198 : decode cX13_readLaw 198 = .ok (.return_, 1) := by decide +kernel
theorem dX13_readLaw_176 : decode cX13_readLaw 176 = .ok (.aload_n 0, 1) := by decide +kernel
theorem dX13_readLaw_177 : decode cX13_readLaw 177 = .ok (.invokevirtual 240, 3) := by decide +kernel
theorem dX13_readLaw_180 : decode cX13_readLaw 180 = .ok (.aload_n 0, 1) := by decide +kernel
theorem dX13_readLaw_181 : decode cX13_readLaw 181 = .ok (.iconst 1, 1) := by decide +kernel
theorem dX13_readLaw_182 : decode cX13_readLaw 182 = .ok (.invokevirtual 372, 3) := by decide +kernel
theorem dX13_readLaw_130 : decode cX13_readLaw 130 = .ok (.aload_n 0, 1) := by decide +kernel
theorem dX13_readLaw_131 : decode cX13_readLaw 131 = .ok (.iconst 0, 1) := by decide +kernel
theorem dX13_readLaw_132 : decode cX13_readLaw 132 = .ok (.invokevirtual 372, 3) := by decide +kernel
theorem dX13_readLaw_81 : decode cX13_readLaw 81 = .ok (.aload_n 0, 1) := by decide +kernel
theorem dX13_readLaw_82 : decode cX13_readLaw 82 = .ok (.getfield 42, 3) := by decide +kernel
theorem dX13_readLaw_85 : decode cX13_readLaw 85 = .ok (.iload_n 2, 1) := by decide +kernel
theorem dX13_readLaw_86 : decode cX13_readLaw 86 = .ok (.iload_n 3, 1) := by decide +kernel
theorem dX13_readLaw_87 : decode cX13_readLaw 87 = .ok (.iadd, 1) := by decide +kernel
theorem dX13_readLaw_88 : decode cX13_readLaw 88 = .ok (.iconst 0, 1) := by decide +kernel
theorem dX13_readLaw_89 : decode cX13_readLaw 89 = .ok (.iastore, 1) := by decide +kernel
theorem dX13_readLaw_90 : decode cX13_readLaw 90 = .ok (.iinc 3 1, 3) := by decide +kernel
theorem dX13_readLaw_93 : decode cX13_readLaw 93 = .ok (.goto (-18), 3) := by decide +kernel
theorem dX13_readLaw_9 : decode cX13_readLaw 9 = .ok (.aload_n 0, 1) := by decide +kernel
theorem dX13_readLaw_10 : decode cX13_readLaw 10 = .ok (.aload_n 0, 1) := by decide +kernel
theorem dX13_readLaw_11 : decode cX13_readLaw 11 = .ok (.getfield 98, 3) := by decide +kernel
theorem dX13_readLaw_14 : decode cX13_readLaw 14 = .ok (.iload_n 2, 1) := by decide +kernel
theorem dX13_readLaw_15 : decode cX13_readLaw 15 = .ok (.laload, 1) := by decide +kernel
theorem dX13_readLaw_16 : decode cX13_readLaw 16 = .ok (.invokevirtual 296, 3) := by decide +kernel
theorem dX13_readLaw_19 : decode cX13_readLaw 19 = .ok (.ifCond .eq 7, 3) := by decide +kernel
theorem dX13_readLaw_26 : decode cX13_readLaw 26 = .ok (.iload_n 1, 1) := by decide +kernel
theorem dX13_readLaw_27 : decode cX13_readLaw 27 = .ok (.istore_n 1, 1) := by decide +kernel
theorem dX13_readLaw_28 : decode cX13_readLaw 28 = .ok (.iinc 2 1, 3) := by decide +kernel
theorem dX13_readLaw_31 : decode cX13_readLaw 31 = .ok (.goto (-27), 3) := by decide +kernel
theorem dX13_readLaw_22 : decode cX13_readLaw 22 = .ok (.iload_n 2, 1) := by decide +kernel
theorem dX13_readLaw_23 : decode cX13_readLaw 23 = .ok (.goto 4, 3) := by decide +kernel
set_option maxHeartbeats 4000000 in
set_option maxRecDepth 100000 in
theorem k_X13_readLaw (l : Launch) (D : va_G) (cy : Nat → ClassId) (ld ad : Nat → Nat) (am : Nat) (hD : mz_D ad am) (Fa : Nat → Int32) (Ga : Nat → Int64) (Ra : Nat → Nat → Int32) (Sa : Nat → Nat → Int64) (gf : Int32) (gt : Int32) (gs : Int32) (gp : Int32) (gw : Int64) (gb : Int32) (gc : Int32) (gn : Int32) (hIF : mz_IF false Fa) (hIG : mz_IG Ga) (hIR : mz_IR [] true Ra) (hg_0 : Fa 14 = gf) (hg_1 : Fa 15 = gt) (hg_2 : Fa 16 = gs) (hg_3 : Fa 13 = gp) (hg_4 : Ga 17 = gw) (hg_5 : Fa 19 = gb) (hg_6 : Fa 23 = gc) (hg_7 : Fa 21 = gn) (hp_0 : 0 ≤ (-1) * gf.toInt + gt.toInt) (hp_1 : 0 ≤ gp.toInt + (-1) * gt.toInt) (hp_2 : (1 ≤ gs.toInt → 0 ≤ (-1) * gf.toInt + gt.toInt + (-1))) (hp_3 : (27 ≤ gw.toInt → 1 ≤ gs.toInt → gs.toInt ≤ 1 → 0 ≤ (-1) * gf.toInt + gt.toInt + (-2))) (hp_4 : 0 ≤ (-1) * gc.toInt + gf.toInt) (hp_5 : gb.toInt ≤ 0) (hx_0 : CLS 8 [3, 5] (Ra 24) (Ra 25) (Ra 22) gc.toInt gn.toInt) : Met l yX13_readLaw (wl yX13_readLaw cX13_readLaw 4 none) ({ frames := 10, cells := 0, slots := 0, locals := 630 }) (mz_p D cy ld ad am Fa Ga Ra Sa [.ref am]) (mz_w D cy ad am (fun F G R S => mz_IF false F ∧ mz_IG G ∧ mz_IR [] true R ∧ (∀ k : Nat, k ∉ ([14, 15, 16, 18, 19, 21, 23, 26, 29, 30] : List Nat) → F k = Fa k) ∧ (∀ k : Nat, k ∉ ([22, 24, 25, 27, 28] : List Nat) → R k = Ra k) ∧ (∀ k : Nat, k ∉ ([17] : List Nat) → G k = Ga k) ∧ 0 ≤ (-1) * (F 14).toInt + (F 15).toInt ∧ 0 ≤ gp.toInt + (-1) * (F 15).toInt ∧ (1 ≤ (F 16).toInt → 0 ≤ (-1) * (F 14).toInt + (F 15).toInt + (-1)) ∧ (27 ≤ (G 17).toInt → 1 ≤ (F 16).toInt → (F 16).toInt ≤ 1 → 0 ≤ (-1) * (F 14).toInt + (F 15).toInt + (-2)) ∧ 0 ≤ (-1) * gf.toInt + (F 14).toInt ∧ 0 ≤ (-1) * gc.toInt + (F 23).toInt ∧ 0 ≤ (-1) * (F 23).toInt + (F 14).toInt ∧ 0 ≤ (-1) * gb.toInt + (F 19).toInt ∧ ((F 19).toInt ≤ 0 → 0 ≤ (-1) * gf.toInt + (F 14).toInt + (-1)) ∧ ((F 19).toInt = 0 → CLS 8 [3, 5] (R 24) (R 25) (R 22) (F 23).toInt (F 21).toInt))) 0 0 (mz_W ad am) := by
  refine mz_met (y := yX13_readLaw) (cc := cX13_readLaw) (maxL := 4) (ret := none) (av := [.ref am]) _ (by decide) (Nat.le_of_ble_eq_true rfl) ?_
  intro p e s m args below meth c hx hb hr hml hts htl hown hlocks hK H locs hM hS ls hl
  have hown : s.vm.findClass RX13 = some m.cls := hown
  have hl : lv_has ls 4 [(0, .ref am)] := hl
  have hq_gf := tk_rng gf
  have hq_gt := tk_rng gt
  have hq_gs := tk_rng gs
  have hq_gp := tk_rng gp
  have hq_gw := tk_rngL gw
  have hq_gb := tk_rng gb
  have hq_gc := tk_rng gc
  have hq_gn := tk_rng gn
  have hr_gf : 0 ≤ gf.toInt ∧ gf.toInt ≤ 400 := hIF.at hg_0
  have hr_gt : 0 ≤ gt.toInt ∧ gt.toInt ≤ 400 := hIF.at hg_1
  have hr_gs : 0 ≤ gs.toInt ∧ gs.toInt ≤ 3 := hIF.at hg_2
  have hr_gp : 0 ≤ gp.toInt ∧ gp.toInt ≤ 400 := hIF.at hg_3
  have hr_gb : 0 ≤ gb.toInt ∧ gb.toInt ≤ 1 := hIF.at hg_5
  have hr_gc : 0 ≤ gc.toInt ∧ gc.toInt ≤ 400 := hIF.at hg_6
  have hr_gn : 0 ≤ gn.toInt ∧ gn.toInt ≤ 12 := hIF.at hg_7
  have hL22 := low.refl (8 * gn.toInt.toNat) (Ra 22)
  have hC : gb.toInt = 0 → CLS 8 [3, 5] (Ra 24) (Ra 25) (Ra 22) gc.toInt gn.toInt := fun _ => hx_0
  refine lv_iconst (v := (-1)) hx hb dX13_readLaw_0 (by decide) ?_
  refine lv_istore_n (lv' := [(1, .int (-1)), (0, .ref am)]) hx hb dX13_readLaw_1 rfl hl (by decide) rfl (fun ls hl => ?_)
  refine lv_iconst (v := 0) hx hb dX13_readLaw_2 (by decide) ?_
  refine lv_istore_n (lv' := [(2, .int 0), (1, .int (-1)), (0, .ref am)]) hx hb dX13_readLaw_3 rfl hl (by decide) rfl (fun ls hl => ?_)
  have hl5613 : ∀ (N_l5613 : Nat) (v1069 : Int32) (v1070 : Int32) (H : Heap) (locs : List Loc), (v1069.toInt ≤ 4) → (0 ≤ v1069.toInt + (-1) * v1070.toInt + (-1)) → ((-1) ≤ v1070.toInt) → (mz_S D cy ad am Fa Ga Ra Sa H) → (va_S (mz_W ad am) s.heap H locs) → ((0 ≤ v1070.toInt → gs.toInt + (-1) = 0)) → ((-1) * v1069.toInt + 4 < (N_l5613 : Int)) → ∀ ls : Array Slot, lv_has ls 4 [(2, .int v1069), (1, .int v1070), (0, .ref am)] → W p l e ({ frames := 10, cells := 0, slots := 0, locals := 630 }) s m args below meth c H locs 0 0 (MQ below (mz_w D cy ad am (fun F G R S => mz_IF false F ∧ mz_IG G ∧ mz_IR [] true R ∧ (∀ k : Nat, k ∉ ([14, 15, 16, 18, 19, 21, 23, 26, 29, 30] : List Nat) → F k = Fa k) ∧ (∀ k : Nat, k ∉ ([22, 24, 25, 27, 28] : List Nat) → R k = Ra k) ∧ (∀ k : Nat, k ∉ ([17] : List Nat) → G k = Ga k) ∧ 0 ≤ (-1) * (F 14).toInt + (F 15).toInt ∧ 0 ≤ gp.toInt + (-1) * (F 15).toInt ∧ (1 ≤ (F 16).toInt → 0 ≤ (-1) * (F 14).toInt + (F 15).toInt + (-1)) ∧ (27 ≤ (G 17).toInt → 1 ≤ (F 16).toInt → (F 16).toInt ≤ 1 → 0 ≤ (-1) * (F 14).toInt + (F 15).toInt + (-2)) ∧ 0 ≤ (-1) * gf.toInt + (F 14).toInt ∧ 0 ≤ (-1) * gc.toInt + (F 23).toInt ∧ 0 ≤ (-1) * (F 23).toInt + (F 14).toInt ∧ 0 ≤ (-1) * gb.toInt + (F 19).toInt ∧ ((F 19).toInt ≤ 0 → 0 ≤ (-1) * gf.toInt + (F 14).toInt + (-1)) ∧ ((F 19).toInt = 0 → CLS 8 [3, 5] (R 24) (R 25) (R 22) (F 23).toInt (F 21).toInt))) args s 0 0 (mz_W ad am)) (F0 m 4 ls []) := by
    intro N_l5613
    induction N_l5613 with
    | zero => intro v1069 v1070 H locs hq0_l5613 hq1_l5613 hq2_l5613 hM hS hc0_l5613 hm_l5613 ls hl; exfalso; omega
    | succ N_l5613 ih_l5613 =>
      intro v1069 v1070 H locs hq0_l5613 hq1_l5613 hq2_l5613 hM hS hc0_l5613 hm_l5613 ls hl
      refine lv_iload_n hx hb dX13_readLaw_4 rfl (lv_at hl 0 rfl) ?_
      refine lv_iconst (v := 4) hx hb dX13_readLaw_5 (by decide) ?_
      refine lv_icmp_ge (tgt := 34) hx hb dX13_readLaw_6 (by decide) (fun c9 => ?_) (fun c9 => ?_)
      · have hc5614 : 4 ≤ v1069.toInt := (fi_le (show (4 : Int32).toInt = 4 by decide) rfl).mp c9
        refine lv_aload_n hx hb dX13_readLaw_34 rfl (lv_at hl 2 rfl) ?_
        refine lv_iload_n hx hb dX13_readLaw_35 rfl (lv_at hl 1 rfl) ?_
        refine lv_iconst (v := (-1)) hx hb dX13_readLaw_36 (by decide) ?_
        refine lv_icmp_eq (tgt := 53) hx hb dX13_readLaw_37 (by decide) (fun c9 => ?_) (fun c9 => ?_)
        · have hc5615 : v1070.toInt = (-1) := (fi_eq rfl (show ((-1) : Int32).toInt = (-1) by decide)).mp c9
          refine lv_iconst (v := 0) hx hb dX13_readLaw_53 (by decide) ?_
          have hk_0 : (0 : Int32).toInt = 0 := by decide
          refine mz_Vv (As := [.int 0]) (rest := []) ⟨hx, hb, hml, hown, hts⟩ hK hM hS (k_X13_must l D cy ld ad am hD _ _ _ _ 0 gf gt gs gp gw gb hIF hIG hIR hg_0 hg_1 hg_2 hg_3 hg_4 hg_5 (by omega) (by omega) (by omega) (by omega) (by omega) (by omega)) ⟨callB_of 1 hts (wl_in mw_713) rfl rfl rfl (htl _ mw_5) (htl _ mw_710) hd_yX13_must ⟨(Nat.le_of_ble_eq_true rfl), (Nat.le_of_ble_eq_true rfl)⟩, htl _ mw_711, htl _ mw_712⟩ rfl hl.1 rfl (Nat.le_of_ble_eq_true rfl) dX13_readLaw_54 ⟨(Nat.le_of_ble_eq_true rfl), (Nat.le_of_ble_eq_true rfl)⟩ (fun H locs F G R S hpo hM hS => ?_)
          obtain ⟨hIF, hIG, hIR, hfr9, hrr9, hgr9, hpo5616, hpo5617, hpo5618, hpo5619, hpo5620, hpo5621, hpo5622, hpo5623⟩ := hpo
          have hFF := mz_fr (K := [14, 15, 16, 18, 19, 21, 23, 26, 29, 30]) (Fa := Fa) hfr9 (fun _ _ => rfl) (by decide)
          have hRR := mz_fr (K := [22, 24, 25, 27, 28]) (Fa := Ra) hrr9 (fun _ _ => rfl) (by decide)
          have hGG := mz_fr (K := [17]) (Fa := Ga) hgr9 (fun _ _ => rfl) (by decide)
          have hg_3 := (hfr9 13 (by decide)).trans hg_3
          have hg_6 := (hfr9 23 (by decide)).trans hg_6
          have hg_7 := (hfr9 21 (by decide)).trans hg_7
          obtain ⟨v5626, hf5625⟩ : ∃ z : Int32, F 14 = z := ⟨_, rfl⟩
          have hq_v5626 := tk_rng v5626
          rw [hf5625] at hpo5616 hpo5618 hpo5619 hpo5620 hpo5622
          have hr_v5626 : 0 ≤ v5626.toInt ∧ v5626.toInt ≤ 400 := hIF.at hf5625
          obtain ⟨v5628, hf5627⟩ : ∃ z : Int32, F 15 = z := ⟨_, rfl⟩
          have hq_v5628 := tk_rng v5628
          rw [hf5627] at hpo5616 hpo5617 hpo5618 hpo5619
          have hr_v5628 : 0 ≤ v5628.toInt ∧ v5628.toInt ≤ 400 := hIF.at hf5627
          obtain ⟨v5630, hf5629⟩ : ∃ z : Int32, F 16 = z := ⟨_, rfl⟩
          have hq_v5630 := tk_rng v5630
          rw [hf5629] at hpo5618 hpo5619
          have hr_v5630 : 0 ≤ v5630.toInt ∧ v5630.toInt ≤ 3 := hIF.at hf5629
          obtain ⟨w5632, hf5631⟩ : ∃ z : Int64, G 17 = z := ⟨_, rfl⟩
          have hq_w5632 := tk_rngL w5632
          rw [hf5631] at hpo5619
          obtain ⟨v5634, hf5633⟩ : ∃ z : Int32, F 19 = z := ⟨_, rfl⟩
          have hq_v5634 := tk_rng v5634
          rw [hf5633] at hpo5621 hpo5622 hpo5623
          have hr_v5634 : 0 ≤ v5634.toInt ∧ v5634.toInt ≤ 1 := hIF.at hf5633
          have hL22 := hL22.to (hrr9 22 (by decide))
          have hC9 := hC
          have hC : v5634.toInt = 0 → CLS 8 [3, 5] (R 24) (R 25) (Ra 22) gc.toInt gn.toInt := fun h9 => (hC9 (by omega)).to (hrr9 24 (by decide)) (hrr9 25 (by decide))
          refine lv_aload_n hx hb dX13_readLaw_57 rfl (lv_at hl 2 rfl) ?_
          refine mz_getI hx hb htl hown hK hM 19 (Nat.le_of_ble_eq_true rfl) rfl (htl _ mw_668) (fun _ h9 => h9) dX13_readLaw_58 (fun v9 e9 => ?_)
          refine fx_ti (v := v5634) (e9.symm.trans hf5633) ?_
          refine lv_if_eq (tgt := 65) hx hb dX13_readLaw_61 (by decide) (fun c9 => ?_) (fun c9 => ?_)
          · have hc5635 : v5634.toInt = 0 := (fi_eq rfl (show (0 : Int32).toInt = 0 by decide)).mp c9
            have hwk_5636 : 0 ≤ (-1) * gt.toInt + v5626.toInt ∧ 0 ≤ (-1) := by omega
            exfalso
            omega
          · have hc5635 : ¬ (v5634.toInt = 0) := fun h9 => c9 ((fi_eq rfl (show (0 : Int32).toInt = 0 by decide)).mpr h9)
            exact mz_vret hx hb hr hlocks ⟨hIF, hIG, hIR, hFF, hRR, hGG, (by rw [hf5625, hf5627]; omega), (by rw [hf5627]; omega), (by rw [hf5625, hf5627, hf5629]; omega), (by rw [hf5625, hf5627, hf5629, hf5631]; omega), (by rw [hf5625]; omega), (by rw [hg_6]; omega), (by rw [hf5625, hg_6]; omega), (by rw [hf5633]; omega), (by rw [hf5625, hf5633]; omega), (by rw [hf5633]; exact fun h9 => absurd h9 (by omega))⟩ hM hS dX13_readLaw_64
        · have hc5615 : ¬ (v1070.toInt = (-1)) := fun h9 => c9 ((fi_eq rfl (show ((-1) : Int32).toInt = (-1) by decide)).mpr h9)
          have hwk_5637 : gs.toInt + (-1) = 0 := by omega
          have hwk_5638 : 0 ≤ (-1) * gf.toInt + gt.toInt + (-1) := by omega
          refine lv_aload_n hx hb dX13_readLaw_40 rfl (lv_at hl 2 rfl) ?_
          refine mz_getI hx hb htl hown hK hM 21 (Nat.le_of_ble_eq_true rfl) rfl (htl _ mw_669) (fun _ h9 => h9) dX13_readLaw_41 (fun v9 e9 => ?_)
          refine fx_ti (v := gn) (e9.symm.trans hg_7) ?_
          refine lv_bipush (v := 12) hx hb dX13_readLaw_44 (by decide) ?_
          refine lv_icmp_ge (tgt := 53) hx hb dX13_readLaw_46 (by decide) (fun c9 => ?_) (fun c9 => ?_)
          · have hc5639 : 12 ≤ gn.toInt := (fi_le (show (12 : Int32).toInt = 12 by decide) rfl).mp c9
            refine lv_iconst (v := 0) hx hb dX13_readLaw_53 (by decide) ?_
            have hk_0 : (0 : Int32).toInt = 0 := by decide
            refine mz_Vv (As := [.int 0]) (rest := []) ⟨hx, hb, hml, hown, hts⟩ hK hM hS (k_X13_must l D cy ld ad am hD _ _ _ _ 0 gf gt gs gp gw gb hIF hIG hIR hg_0 hg_1 hg_2 hg_3 hg_4 hg_5 (by omega) (by omega) (by omega) (by omega) (by omega) (by omega)) ⟨callB_of 1 hts (wl_in mw_713) rfl rfl rfl (htl _ mw_5) (htl _ mw_710) hd_yX13_must ⟨(Nat.le_of_ble_eq_true rfl), (Nat.le_of_ble_eq_true rfl)⟩, htl _ mw_711, htl _ mw_712⟩ rfl hl.1 rfl (Nat.le_of_ble_eq_true rfl) dX13_readLaw_54 ⟨(Nat.le_of_ble_eq_true rfl), (Nat.le_of_ble_eq_true rfl)⟩ (fun H locs F G R S hpo hM hS => ?_)
            obtain ⟨hIF, hIG, hIR, hfr9, hrr9, hgr9, hpo5640, hpo5641, hpo5642, hpo5643, hpo5644, hpo5645, hpo5646, hpo5647⟩ := hpo
            have hFF := mz_fr (K := [14, 15, 16, 18, 19, 21, 23, 26, 29, 30]) (Fa := Fa) hfr9 (fun _ _ => rfl) (by decide)
            have hRR := mz_fr (K := [22, 24, 25, 27, 28]) (Fa := Ra) hrr9 (fun _ _ => rfl) (by decide)
            have hGG := mz_fr (K := [17]) (Fa := Ga) hgr9 (fun _ _ => rfl) (by decide)
            have hg_3 := (hfr9 13 (by decide)).trans hg_3
            have hg_6 := (hfr9 23 (by decide)).trans hg_6
            have hg_7 := (hfr9 21 (by decide)).trans hg_7
            obtain ⟨v5650, hf5649⟩ : ∃ z : Int32, F 14 = z := ⟨_, rfl⟩
            have hq_v5650 := tk_rng v5650
            rw [hf5649] at hpo5640 hpo5642 hpo5643 hpo5644 hpo5646
            have hr_v5650 : 0 ≤ v5650.toInt ∧ v5650.toInt ≤ 400 := hIF.at hf5649
            obtain ⟨v5652, hf5651⟩ : ∃ z : Int32, F 15 = z := ⟨_, rfl⟩
            have hq_v5652 := tk_rng v5652
            rw [hf5651] at hpo5640 hpo5641 hpo5642 hpo5643
            have hr_v5652 : 0 ≤ v5652.toInt ∧ v5652.toInt ≤ 400 := hIF.at hf5651
            obtain ⟨v5654, hf5653⟩ : ∃ z : Int32, F 16 = z := ⟨_, rfl⟩
            have hq_v5654 := tk_rng v5654
            rw [hf5653] at hpo5642 hpo5643
            have hr_v5654 : 0 ≤ v5654.toInt ∧ v5654.toInt ≤ 3 := hIF.at hf5653
            obtain ⟨w5656, hf5655⟩ : ∃ z : Int64, G 17 = z := ⟨_, rfl⟩
            have hq_w5656 := tk_rngL w5656
            rw [hf5655] at hpo5643
            obtain ⟨v5658, hf5657⟩ : ∃ z : Int32, F 19 = z := ⟨_, rfl⟩
            have hq_v5658 := tk_rng v5658
            rw [hf5657] at hpo5645 hpo5646 hpo5647
            have hr_v5658 : 0 ≤ v5658.toInt ∧ v5658.toInt ≤ 1 := hIF.at hf5657
            have hL22 := hL22.to (hrr9 22 (by decide))
            have hC9 := hC
            have hC : v5658.toInt = 0 → CLS 8 [3, 5] (R 24) (R 25) (Ra 22) gc.toInt gn.toInt := fun h9 => (hC9 (by omega)).to (hrr9 24 (by decide)) (hrr9 25 (by decide))
            refine lv_aload_n hx hb dX13_readLaw_57 rfl (lv_at hl 2 rfl) ?_
            refine mz_getI hx hb htl hown hK hM 19 (Nat.le_of_ble_eq_true rfl) rfl (htl _ mw_668) (fun _ h9 => h9) dX13_readLaw_58 (fun v9 e9 => ?_)
            refine fx_ti (v := v5658) (e9.symm.trans hf5657) ?_
            refine lv_if_eq (tgt := 65) hx hb dX13_readLaw_61 (by decide) (fun c9 => ?_) (fun c9 => ?_)
            · have hc5659 : v5658.toInt = 0 := (fi_eq rfl (show (0 : Int32).toInt = 0 by decide)).mp c9
              have hwk_5660 : 0 ≤ (-1) * gt.toInt + v5650.toInt ∧ 0 ≤ (-1) := by omega
              exfalso
              omega
            · have hc5659 : ¬ (v5658.toInt = 0) := fun h9 => c9 ((fi_eq rfl (show (0 : Int32).toInt = 0 by decide)).mpr h9)
              exact mz_vret hx hb hr hlocks ⟨hIF, hIG, hIR, hFF, hRR, hGG, (by rw [hf5649, hf5651]; omega), (by rw [hf5651]; omega), (by rw [hf5649, hf5651, hf5653]; omega), (by rw [hf5649, hf5651, hf5653, hf5655]; omega), (by rw [hf5649]; omega), (by rw [hg_6]; omega), (by rw [hf5649, hg_6]; omega), (by rw [hf5657]; omega), (by rw [hf5649, hf5657]; omega), (by rw [hf5657]; exact fun h9 => absurd h9 (by omega))⟩ hM hS dX13_readLaw_64
          · have hc5639 : ¬ (12 ≤ gn.toInt) := fun h9 => c9 ((fi_le (show (12 : Int32).toInt = 12 by decide) rfl).mpr h9)
            refine lv_iconst (v := 1) hx hb dX13_readLaw_49 (by decide) ?_
            refine lv_goto (tgt := 54) hx hb dX13_readLaw_50 (by decide) ?_
            have hk_1 : (1 : Int32).toInt = 1 := by decide
            refine mz_Vv (As := [.int 1]) (rest := []) ⟨hx, hb, hml, hown, hts⟩ hK hM hS (k_X13_must l D cy ld ad am hD _ _ _ _ 1 gf gt gs gp gw gb hIF hIG hIR hg_0 hg_1 hg_2 hg_3 hg_4 hg_5 (by omega) (by omega) (by omega) (by omega) (by omega) (by omega)) ⟨callB_of 1 hts (wl_in mw_713) rfl rfl rfl (htl _ mw_5) (htl _ mw_710) hd_yX13_must ⟨(Nat.le_of_ble_eq_true rfl), (Nat.le_of_ble_eq_true rfl)⟩, htl _ mw_711, htl _ mw_712⟩ rfl hl.1 rfl (Nat.le_of_ble_eq_true rfl) dX13_readLaw_54 ⟨(Nat.le_of_ble_eq_true rfl), (Nat.le_of_ble_eq_true rfl)⟩ (fun H locs F G R S hpo hM hS => ?_)
            obtain ⟨hIF, hIG, hIR, hfr9, hrr9, hgr9, hpo5661, hpo5662, hpo5663, hpo5664, hpo5665, hpo5666, hpo5667, hpo5668⟩ := hpo
            have hFF := mz_fr (K := [14, 15, 16, 18, 19, 21, 23, 26, 29, 30]) (Fa := Fa) hfr9 (fun _ _ => rfl) (by decide)
            have hRR := mz_fr (K := [22, 24, 25, 27, 28]) (Fa := Ra) hrr9 (fun _ _ => rfl) (by decide)
            have hGG := mz_fr (K := [17]) (Fa := Ga) hgr9 (fun _ _ => rfl) (by decide)
            have hg_3 := (hfr9 13 (by decide)).trans hg_3
            have hg_6 := (hfr9 23 (by decide)).trans hg_6
            have hg_7 := (hfr9 21 (by decide)).trans hg_7
            obtain ⟨v5671, hf5670⟩ : ∃ z : Int32, F 14 = z := ⟨_, rfl⟩
            have hq_v5671 := tk_rng v5671
            rw [hf5670] at hpo5661 hpo5663 hpo5664 hpo5665 hpo5667
            have hr_v5671 : 0 ≤ v5671.toInt ∧ v5671.toInt ≤ 400 := hIF.at hf5670
            obtain ⟨v5673, hf5672⟩ : ∃ z : Int32, F 15 = z := ⟨_, rfl⟩
            have hq_v5673 := tk_rng v5673
            rw [hf5672] at hpo5661 hpo5662 hpo5663 hpo5664
            have hr_v5673 : 0 ≤ v5673.toInt ∧ v5673.toInt ≤ 400 := hIF.at hf5672
            obtain ⟨v5675, hf5674⟩ : ∃ z : Int32, F 16 = z := ⟨_, rfl⟩
            have hq_v5675 := tk_rng v5675
            rw [hf5674] at hpo5663 hpo5664
            have hr_v5675 : 0 ≤ v5675.toInt ∧ v5675.toInt ≤ 3 := hIF.at hf5674
            obtain ⟨w5677, hf5676⟩ : ∃ z : Int64, G 17 = z := ⟨_, rfl⟩
            have hq_w5677 := tk_rngL w5677
            rw [hf5676] at hpo5664
            obtain ⟨v5679, hf5678⟩ : ∃ z : Int32, F 19 = z := ⟨_, rfl⟩
            have hq_v5679 := tk_rng v5679
            rw [hf5678] at hpo5666 hpo5667 hpo5668
            have hr_v5679 : 0 ≤ v5679.toInt ∧ v5679.toInt ≤ 1 := hIF.at hf5678
            have hwk_5680 : v5679.toInt ≤ 0 := by omega
            have hwk_5681 : 0 ≤ (-1) * gt.toInt + v5671.toInt := by omega
            have hL22 := hL22.to (hrr9 22 (by decide))
            have hC9 := hC
            have hC : v5679.toInt = 0 → CLS 8 [3, 5] (R 24) (R 25) (Ra 22) gc.toInt gn.toInt := fun h9 => (hC9 (by omega)).to (hrr9 24 (by decide)) (hrr9 25 (by decide))
            refine lv_aload_n hx hb dX13_readLaw_57 rfl (lv_at hl 2 rfl) ?_
            refine mz_getI hx hb htl hown hK hM 19 (Nat.le_of_ble_eq_true rfl) rfl (htl _ mw_668) (fun _ h9 => h9) dX13_readLaw_58 (fun v9 e9 => ?_)
            refine fx_ti (v := v5679) (e9.symm.trans hf5678) ?_
            refine lv_if_eq (tgt := 65) hx hb dX13_readLaw_61 (by decide) (fun _ => ?_) (fun c9 => absurd ((fi_eq rfl (show (0 : Int32).toInt = 0 by decide)).mpr (show v5679.toInt = 0 by omega)) c9)
            refine lv_bipush (v := 8) hx hb dX13_readLaw_65 (by decide) ?_
            refine lv_aload_n hx hb dX13_readLaw_67 rfl (lv_at hl 2 rfl) ?_
            refine mz_getI hx hb htl hown hK hM 21 (Nat.le_of_ble_eq_true rfl) rfl (htl _ mw_669) (fun _ h9 => h9) dX13_readLaw_68 (fun v9 e9 => ?_)
            refine fx_ti (v := gn) (e9.symm.trans hg_7) ?_
            refine lv_imul hx hb dX13_readLaw_71 ?_
            refine tk_mul (show (8 : Int32).toInt = 8 by decide) rfl (by omega) (by omega) (fun v5682 h_v5682 => ?_)
            refine lv_istore_n (lv' := [(2, .int v5682), (1, .int v1070), (0, .ref am)]) hx hb dX13_readLaw_72 rfl hl (by decide) rfl (fun ls hl => ?_)
            refine lv_iconst (v := 0) hx hb dX13_readLaw_73 (by decide) ?_
            refine lv_istore_n (lv' := [(3, .int 0), (2, .int v5682), (1, .int v1070), (0, .ref am)]) hx hb dX13_readLaw_74 rfl hl (by decide) rfl (fun ls hl => ?_)
            have hl6388 : ∀ (N_l6388 : Nat) (v5683 : Int32) (H : Heap) (locs : List Loc) (R : Nat → Nat → Int32), (0 ≤ (-1) * v5679.toInt + v5683.toInt) → (v5683.toInt ≤ 8) → (mz_S D cy ad am F G R S H) → (va_S (mz_W ad am) s.heap H locs) → (mz_IR [] true R) → (∀ k : Nat, k ∉ ([22, 24, 25, 27, 28] : List Nat) → R k = Ra k) → (low (8 * gn.toInt.toNat) (Ra 22) (R 22)) → (v5679.toInt = 0 → CLS 8 [3, 5] (R 24) (R 25) (Ra 22) gc.toInt gn.toInt) → ((-1) * v5683.toInt + 8 < (N_l6388 : Int)) → ∀ ls : Array Slot, lv_has ls 4 [(3, .int v5683), (2, .int v5682), (1, .int v1070), (0, .ref am)] → W p l e ({ frames := 10, cells := 0, slots := 0, locals := 630 }) s m args below meth c H locs 0 0 (MQ below (mz_w D cy ad am (fun F G R S => mz_IF false F ∧ mz_IG G ∧ mz_IR [] true R ∧ (∀ k : Nat, k ∉ ([14, 15, 16, 18, 19, 21, 23, 26, 29, 30] : List Nat) → F k = Fa k) ∧ (∀ k : Nat, k ∉ ([22, 24, 25, 27, 28] : List Nat) → R k = Ra k) ∧ (∀ k : Nat, k ∉ ([17] : List Nat) → G k = Ga k) ∧ 0 ≤ (-1) * (F 14).toInt + (F 15).toInt ∧ 0 ≤ gp.toInt + (-1) * (F 15).toInt ∧ (1 ≤ (F 16).toInt → 0 ≤ (-1) * (F 14).toInt + (F 15).toInt + (-1)) ∧ (27 ≤ (G 17).toInt → 1 ≤ (F 16).toInt → (F 16).toInt ≤ 1 → 0 ≤ (-1) * (F 14).toInt + (F 15).toInt + (-2)) ∧ 0 ≤ (-1) * gf.toInt + (F 14).toInt ∧ 0 ≤ (-1) * gc.toInt + (F 23).toInt ∧ 0 ≤ (-1) * (F 23).toInt + (F 14).toInt ∧ 0 ≤ (-1) * gb.toInt + (F 19).toInt ∧ ((F 19).toInt ≤ 0 → 0 ≤ (-1) * gf.toInt + (F 14).toInt + (-1)) ∧ ((F 19).toInt = 0 → CLS 8 [3, 5] (R 24) (R 25) (R 22) (F 23).toInt (F 21).toInt))) args s 0 0 (mz_W ad am)) (F0 m 75 ls []) := by
              intro N_l6388
              induction N_l6388 with
              | zero => intro v5683 H locs R hq0_l6388 hq1_l6388 hM hS hIR hRR hL22 hC hm_l6388 ls hl; exfalso; omega
              | succ N_l6388 ih_l6388 =>
                intro v5683 H locs R hq0_l6388 hq1_l6388 hM hS hIR hRR hL22 hC hm_l6388 ls hl
                refine lv_iload_n hx hb dX13_readLaw_75 rfl (lv_at hl 0 rfl) ?_
                refine lv_bipush (v := 8) hx hb dX13_readLaw_76 (by decide) ?_
                refine lv_icmp_ge (tgt := 96) hx hb dX13_readLaw_78 (by decide) (fun c9 => ?_) (fun c9 => ?_)
                · have hc6389 : 8 ≤ v5683.toInt := (fi_le (show (8 : Int32).toInt = 8 by decide) rfl).mp c9
                  refine lv_aload_n hx hb dX13_readLaw_96 rfl (lv_at hl 3 rfl) ?_
                  refine mz_getR hx hb htl hown hK hM 22 (Nat.le_of_ble_eq_true rfl) (Nat.le_of_ble_eq_true rfl) (htl _ mw_197) (fun _ h9 => h9) dX13_readLaw_97 ?_
                  refine lv_iload_n hx hb dX13_readLaw_100 rfl (lv_at hl 1 rfl) ?_
                  refine lv_iload_n hx hb dX13_readLaw_101 rfl (lv_at hl 2 rfl) ?_
                  refine mz_iast (x := v1070) hx hb hK hD hM hS 22 (Nat.le_of_ble_eq_true rfl) rfl (nn := 96) rfl rfl (by omega) (by omega) dX13_readLaw_102 (fun H locs R hM hS hw9 hj9 => ?_)
                  have hIR := hIR.put hw9 hj9 trivial
                  have hL22 : low (8 * gn.toInt.toNat) (Ra 22) (R 22) := fun j hj => by rw [hw9, pk_un (fun h9 => by have h8 := tk_nat (i := v5682) rfl (by omega); omega)]; exact hL22 j hj
                  have hC9 := hC
                  have hC : v5679.toInt = 0 → CLS 8 [3, 5] (R 24) (R 25) (Ra 22) gc.toInt gn.toInt := fun h9 => (hC9 (by omega)).to (hj9 24 (by decide)) (hj9 25 (by decide))
                  have h22_0 : R 22 (8 * gn.toInt.toNat + 0) = v1070 := by rw [hw9, show 8 * gn.toInt.toNat + 0 = (v5682 : Int32).toNatClampNeg by show _ = v5682.toInt.toNat; omega]; exact pk_us
                  have hRR := mz_frp (K := [22, 24, 25, 27, 28]) (Fa := Ra) hj9 hRR (by decide)
                  refine lv_aload_n hx hb dX13_readLaw_103 rfl (lv_at hl 3 rfl) ?_
                  refine lv_dup hx hb dX13_readLaw_104 rfl ?_
                  refine mz_getI hx hb htl hown hK hM 21 (Nat.le_of_ble_eq_true rfl) rfl (htl _ mw_669) (fun _ h9 => h9) dX13_readLaw_105 (fun v9 e9 => ?_)
                  refine fx_ti (v := gn) (e9.symm.trans hg_7) ?_
                  refine lv_iconst (v := 1) hx hb dX13_readLaw_108 (by decide) ?_
                  refine lv_iadd hx hb dX13_readLaw_109 ?_
                  refine tk_add rfl (show (1 : Int32).toInt = 1 by decide) (by omega) (by omega) (fun v6391 h_v6391 => ?_)
                  refine mz_putI (ty := .int) (x := v6391) hx hb htl hown hK hD hM hS 21 (Nat.le_of_ble_eq_true rfl) rfl (htl _ mw_669) (fun _ h9 => h9) rfl (tyX13_ok 21 (by decide)) rfl rfl dX13_readLaw_110 (fun H locs F hM hS hf9 hj9 => ?_)
                  have hIF := hIF.put hf9 hj9 (show 0 ≤ (v6391 : Int32).toInt by omega) (show (v6391 : Int32).toInt ≤ 12 by omega) (by decide)
                  have hFF := mz_frp (K := [14, 15, 16, 18, 19, 21, 23, 26, 29, 30]) (Fa := Fa) hj9 hFF (by decide)
                  have hg_3 := (hj9 13 (by decide)).trans hg_3
                  have hg_6 := (hj9 23 (by decide)).trans hg_6
                  have hf5670 := (hj9 14 (by decide)).trans hf5670
                  have hf5672 := (hj9 15 (by decide)).trans hf5672
                  have hf5674 := (hj9 16 (by decide)).trans hf5674
                  have hf5678 := (hj9 19 (by decide)).trans hf5678
                  have hf6393 := hf9
                  refine lv_aload_n hx hb dX13_readLaw_113 rfl (lv_at hl 3 rfl) ?_
                  refine mz_getR hx hb htl hown hK hM 22 (Nat.le_of_ble_eq_true rfl) (Nat.le_of_ble_eq_true rfl) (htl _ mw_197) (fun _ h9 => h9) dX13_readLaw_114 ?_
                  refine lv_iload_n hx hb dX13_readLaw_117 rfl (lv_at hl 1 rfl) ?_
                  refine lv_iconst (v := 3) hx hb dX13_readLaw_118 (by decide) ?_
                  refine lv_iadd hx hb dX13_readLaw_119 ?_
                  refine tk_add rfl (show (3 : Int32).toInt = 3 by decide) (by omega) (by omega) (fun v6394 h_v6394 => ?_)
                  refine lv_aload_n hx hb dX13_readLaw_120 rfl (lv_at hl 3 rfl) ?_
                  refine mz_getI hx hb htl hown hK hM 23 (Nat.le_of_ble_eq_true rfl) rfl (htl _ mw_670) (fun _ h9 => h9) dX13_readLaw_121 (fun v9 e9 => ?_)
                  refine fx_ti (v := gc) (e9.symm.trans hg_6) ?_
                  refine mz_iast (x := gc) hx hb hK hD hM hS 22 (Nat.le_of_ble_eq_true rfl) rfl (nn := 96) rfl rfl (by omega) (by omega) dX13_readLaw_124 (fun H locs R hM hS hw9 hj9 => ?_)
                  have hIR := hIR.put hw9 hj9 trivial
                  have hL22 : low (8 * gn.toInt.toNat) (Ra 22) (R 22) := fun j hj => by rw [hw9, pk_un (fun h9 => by have h8 := tk_nat (i := v6394) rfl (by omega); omega)]; exact hL22 j hj
                  have h22_0 : R 22 (8 * gn.toInt.toNat + 0) = v1070 := by rw [hw9, pk_un (fun h9 => by have h8 := tk_nat (i := v6394) rfl (by omega); omega)]; exact h22_0
                  have hC9 := hC
                  have hC : v5679.toInt = 0 → CLS 8 [3, 5] (R 24) (R 25) (Ra 22) gc.toInt gn.toInt := fun h9 => (hC9 (by omega)).to (hj9 24 (by decide)) (hj9 25 (by decide))
                  have h22_3 : R 22 (8 * gn.toInt.toNat + 3) = gc := by rw [hw9, show 8 * gn.toInt.toNat + 3 = (v6394 : Int32).toNatClampNeg by show _ = v6394.toInt.toNat; omega]; exact pk_us
                  have hRR := mz_frp (K := [22, 24, 25, 27, 28]) (Fa := Ra) hj9 hRR (by decide)
                  refine lv_iload_n hx hb dX13_readLaw_125 rfl (lv_at hl 2 rfl) ?_
                  refine lv_iconst (v := 3) hx hb dX13_readLaw_126 (by decide) ?_
                  refine lv_icmp_eq (tgt := 135) hx hb dX13_readLaw_127 (by decide) (fun c9 => ?_) (fun c9 => ?_)
                  · have hc6396 : v1070.toInt = 3 := (fi_eq rfl (show (3 : Int32).toInt = 3 by decide)).mp c9
                    refine lv_aload_n hx hb dX13_readLaw_135 rfl (lv_at hl 3 rfl) ?_
                    refine mz_getR hx hb htl hown hK hM 22 (Nat.le_of_ble_eq_true rfl) (Nat.le_of_ble_eq_true rfl) (htl _ mw_197) (fun _ h9 => h9) dX13_readLaw_136 ?_
                    refine lv_iload_n hx hb dX13_readLaw_139 rfl (lv_at hl 1 rfl) ?_
                    refine lv_iconst (v := 4) hx hb dX13_readLaw_140 (by decide) ?_
                    refine lv_iadd hx hb dX13_readLaw_141 ?_
                    refine tk_add rfl (show (4 : Int32).toInt = 4 by decide) (by omega) (by omega) (fun v6397 h_v6397 => ?_)
                    refine lv_aload_n hx hb dX13_readLaw_142 rfl (lv_at hl 3 rfl) ?_
                    refine mz_getI hx hb htl hown hK hM 23 (Nat.le_of_ble_eq_true rfl) rfl (htl _ mw_670) (fun _ h9 => h9) dX13_readLaw_143 (fun v9 e9 => ?_)
                    refine fx_ti (v := gc) (e9.symm.trans hg_6) ?_
                    refine mz_iast (x := gc) hx hb hK hD hM hS 22 (Nat.le_of_ble_eq_true rfl) rfl (nn := 96) rfl rfl (by omega) (by omega) dX13_readLaw_146 (fun H locs R hM hS hw9 hj9 => ?_)
                    have hIR := hIR.put hw9 hj9 trivial
                    have hL22 : low (8 * gn.toInt.toNat) (Ra 22) (R 22) := fun j hj => by rw [hw9, pk_un (fun h9 => by have h8 := tk_nat (i := v6397) rfl (by omega); omega)]; exact hL22 j hj
                    have h22_0 : R 22 (8 * gn.toInt.toNat + 0) = v1070 := by rw [hw9, pk_un (fun h9 => by have h8 := tk_nat (i := v6397) rfl (by omega); omega)]; exact h22_0
                    have h22_3 : R 22 (8 * gn.toInt.toNat + 3) = gc := by rw [hw9, pk_un (fun h9 => by have h8 := tk_nat (i := v6397) rfl (by omega); omega)]; exact h22_3
                    have hC9 := hC
                    have hC : v5679.toInt = 0 → CLS 8 [3, 5] (R 24) (R 25) (Ra 22) gc.toInt gn.toInt := fun h9 => (hC9 (by omega)).to (hj9 24 (by decide)) (hj9 25 (by decide))
                    have h22_4 : R 22 (8 * gn.toInt.toNat + 4) = gc := by rw [hw9, show 8 * gn.toInt.toNat + 4 = (v6397 : Int32).toNatClampNeg by show _ = v6397.toInt.toNat; omega]; exact pk_us
                    have hRR := mz_frp (K := [22, 24, 25, 27, 28]) (Fa := Ra) hj9 hRR (by decide)
                    refine lv_aload_n hx hb dX13_readLaw_147 rfl (lv_at hl 3 rfl) ?_
                    refine mz_getR hx hb htl hown hK hM 22 (Nat.le_of_ble_eq_true rfl) (Nat.le_of_ble_eq_true rfl) (htl _ mw_197) (fun _ h9 => h9) dX13_readLaw_148 ?_
                    refine lv_iload_n hx hb dX13_readLaw_151 rfl (lv_at hl 1 rfl) ?_
                    refine lv_iconst (v := 5) hx hb dX13_readLaw_152 (by decide) ?_
                    refine lv_iadd hx hb dX13_readLaw_153 ?_
                    refine tk_add rfl (show (5 : Int32).toInt = 5 by decide) (by omega) (by omega) (fun v6399 h_v6399 => ?_)
                    refine lv_aload_n hx hb dX13_readLaw_154 rfl (lv_at hl 3 rfl) ?_
                    refine mz_getI hx hb htl hown hK hM 23 (Nat.le_of_ble_eq_true rfl) rfl (htl _ mw_670) (fun _ h9 => h9) dX13_readLaw_155 (fun v9 e9 => ?_)
                    refine fx_ti (v := gc) (e9.symm.trans hg_6) ?_
                    refine mz_iast (x := gc) hx hb hK hD hM hS 22 (Nat.le_of_ble_eq_true rfl) rfl (nn := 96) rfl rfl (by omega) (by omega) dX13_readLaw_158 (fun H locs R hM hS hw9 hj9 => ?_)
                    have hIR := hIR.put hw9 hj9 trivial
                    have hL22 : low (8 * gn.toInt.toNat) (Ra 22) (R 22) := fun j hj => by rw [hw9, pk_un (fun h9 => by have h8 := tk_nat (i := v6399) rfl (by omega); omega)]; exact hL22 j hj
                    have h22_0 : R 22 (8 * gn.toInt.toNat + 0) = v1070 := by rw [hw9, pk_un (fun h9 => by have h8 := tk_nat (i := v6399) rfl (by omega); omega)]; exact h22_0
                    have h22_3 : R 22 (8 * gn.toInt.toNat + 3) = gc := by rw [hw9, pk_un (fun h9 => by have h8 := tk_nat (i := v6399) rfl (by omega); omega)]; exact h22_3
                    have h22_4 : R 22 (8 * gn.toInt.toNat + 4) = gc := by rw [hw9, pk_un (fun h9 => by have h8 := tk_nat (i := v6399) rfl (by omega); omega)]; exact h22_4
                    have hC9 := hC
                    have hC : v5679.toInt = 0 → CLS 8 [3, 5] (R 24) (R 25) (Ra 22) gc.toInt gn.toInt := fun h9 => (hC9 (by omega)).to (hj9 24 (by decide)) (hj9 25 (by decide))
                    have h22_5 : R 22 (8 * gn.toInt.toNat + 5) = gc := by rw [hw9, show 8 * gn.toInt.toNat + 5 = (v6399 : Int32).toNatClampNeg by show _ = v6399.toInt.toNat; omega]; exact pk_us
                    have hRR := mz_frp (K := [22, 24, 25, 27, 28]) (Fa := Ra) hj9 hRR (by decide)
                    refine lv_aload_n hx hb dX13_readLaw_159 rfl (lv_at hl 3 rfl) ?_
                    refine mz_getI hx hb htl hown hK hM 19 (Nat.le_of_ble_eq_true rfl) rfl (htl _ mw_668) (fun _ h9 => h9) dX13_readLaw_160 (fun v9 e9 => ?_)
                    refine fx_ti (v := v5679) (e9.symm.trans hf5678) ?_
                    refine lv_if_ne (tgt := 185) hx hb dX13_readLaw_163 (by decide) (fun c9 => absurd ((fi_eq rfl (show (0 : Int32).toInt = 0 by decide)).mpr (show v5679.toInt = 0 by omega)) c9) (fun _ => ?_)
                    refine lv_aload_n hx hb dX13_readLaw_166 rfl (lv_at hl 3 rfl) ?_
                    refine lv_ldc2 hx hb hown (htl _ mw_705) dX13_readLaw_167 ?_
                    have hk_294 : (294 : Int64).toInt = 294 := by decide
                    refine mz_Vj (As := [.long 294]) (rest := []) ⟨hx, hb, hml, hown, hts⟩ hK hM hS (k_X13_isWord l D cy ld ad am hD _ _ _ _ 294 v5675 w5677 hIF hIG hIR hf5674 hf5676) ⟨callB_of 1 hts (wl_in mw_709) rfl rfl rfl (htl _ mw_5) (htl _ mw_706) hd_yX13_isWord ⟨(Nat.le_of_ble_eq_true rfl), (Nat.le_of_ble_eq_true rfl)⟩, htl _ mw_707, htl _ mw_708⟩ rfl hl.1 rfl (Nat.le_of_ble_eq_true rfl) dX13_readLaw_170 ⟨(Nat.le_of_ble_eq_true rfl), (Nat.le_of_ble_eq_true rfl)⟩ (fun v6401 H locs hpo hM hS => ?_)
                    obtain ⟨hpo6402, hpo6403, hpo6404, hpo6405, hpo6406⟩ := hpo
                    have hq_v6401 := tk_rng v6401
                    refine lv_if_eq (tgt := 185) hx hb dX13_readLaw_173 (by decide) (fun c9 => ?_) (fun c9 => ?_)
                    · have hc6408 : v6401.toInt = 0 := (fi_eq rfl (show (0 : Int32).toInt = 0 by decide)).mp c9
                      refine lv_aload_n hx hb dX13_readLaw_185 rfl (lv_at hl 3 rfl) ?_
                      refine mz_getR hx hb htl hown hK hM 22 (Nat.le_of_ble_eq_true rfl) (Nat.le_of_ble_eq_true rfl) (htl _ mw_197) (fun _ h9 => h9) dX13_readLaw_186 ?_
                      refine lv_iload_n hx hb dX13_readLaw_189 rfl (lv_at hl 1 rfl) ?_
                      refine lv_bipush (v := 6) hx hb dX13_readLaw_190 (by decide) ?_
                      refine lv_iadd hx hb dX13_readLaw_192 ?_
                      refine tk_add rfl (show (6 : Int32).toInt = 6 by decide) (by omega) (by omega) (fun v6409 h_v6409 => ?_)
                      refine lv_aload_n hx hb dX13_readLaw_193 rfl (lv_at hl 3 rfl) ?_
                      refine mz_getI hx hb htl hown hK hM 23 (Nat.le_of_ble_eq_true rfl) rfl (htl _ mw_670) (fun _ h9 => h9) dX13_readLaw_194 (fun v9 e9 => ?_)
                      refine fx_ti (v := gc) (e9.symm.trans hg_6) ?_
                      refine mz_iast (x := gc) hx hb hK hD hM hS 22 (Nat.le_of_ble_eq_true rfl) rfl (nn := 96) rfl rfl (by omega) (by omega) dX13_readLaw_197 (fun H locs R hM hS hw9 hj9 => ?_)
                      have hIR := hIR.put hw9 hj9 trivial
                      have hL22 : low (8 * gn.toInt.toNat) (Ra 22) (R 22) := fun j hj => by rw [hw9, pk_un (fun h9 => by have h8 := tk_nat (i := v6409) rfl (by omega); omega)]; exact hL22 j hj
                      have h22_0 : R 22 (8 * gn.toInt.toNat + 0) = v1070 := by rw [hw9, pk_un (fun h9 => by have h8 := tk_nat (i := v6409) rfl (by omega); omega)]; exact h22_0
                      have h22_3 : R 22 (8 * gn.toInt.toNat + 3) = gc := by rw [hw9, pk_un (fun h9 => by have h8 := tk_nat (i := v6409) rfl (by omega); omega)]; exact h22_3
                      have h22_4 : R 22 (8 * gn.toInt.toNat + 4) = gc := by rw [hw9, pk_un (fun h9 => by have h8 := tk_nat (i := v6409) rfl (by omega); omega)]; exact h22_4
                      have h22_5 : R 22 (8 * gn.toInt.toNat + 5) = gc := by rw [hw9, pk_un (fun h9 => by have h8 := tk_nat (i := v6409) rfl (by omega); omega)]; exact h22_5
                      have hC9 := hC
                      have hC : v5679.toInt = 0 → CLS 8 [3, 5] (R 24) (R 25) (Ra 22) gc.toInt gn.toInt := fun h9 => (hC9 (by omega)).to (hj9 24 (by decide)) (hj9 25 (by decide))
                      have h22_6 : R 22 (8 * gn.toInt.toNat + 6) = gc := by rw [hw9, show 8 * gn.toInt.toNat + 6 = (v6409 : Int32).toNatClampNeg by show _ = v6409.toInt.toNat; omega]; exact pk_us
                      have hRR := mz_frp (K := [22, 24, 25, 27, 28]) (Fa := Ra) hj9 hRR (by decide)
                      exact mz_vret hx hb hr hlocks ⟨hIF, hIG, hIR, hFF, hRR, hGG, (by rw [hf5670, hf5672]; omega), (by rw [hf5672]; omega), (by rw [hf5670, hf5672, hf5674]; omega), (by rw [hf5670, hf5672, hf5674, hf5676]; omega), (by rw [hf5670]; omega), (by rw [hg_6]; omega), (by rw [hf5670, hg_6]; omega), (by rw [hf5678]; omega), (by rw [hf5670, hf5678]; omega), (by rw [hf5678, hg_6, hf6393]; exact fun h9 => mz_snoc (N := gn.toInt.toNat) (hC h9) (by omega) (by omega) hL22 (by decide) (by omega) (by intro d hd; simp only [List.mem_cons, List.not_mem_nil, or_false] at hd; rcases hd with rfl | rfl <;> first | (rw [show 8 * gn.toInt.toNat + 3 + 1 = 8 * gn.toInt.toNat + 4 from rfl, h22_3, h22_4]; exact ⟨WFX.nil (by omega) (by omega), by omega⟩) | (rw [show 8 * gn.toInt.toNat + 5 + 1 = 8 * gn.toInt.toNat + 6 from rfl, h22_5, h22_6]; exact ⟨WFX.nil (by omega) (by omega), by omega⟩)))⟩ hM hS dX13_readLaw_198
                    · have hc6408 : ¬ (v6401.toInt = 0) := fun h9 => c9 ((fi_eq rfl (show (0 : Int32).toInt = 0 by decide)).mpr h9)
                      have hwk_6411 : w5677.toInt + (-294) = 0 ∧ v5675.toInt + (-1) = 0 := by omega
                      have hwk_6412 : 0 ≤ (-1) * v5671.toInt + v5673.toInt + (-1) := by omega
                      have hwk_6413 : 0 ≤ (-1) * v5671.toInt + v5673.toInt + (-2) := by omega
                      refine lv_aload_n hx hb dX13_readLaw_176 rfl (lv_at hl 3 rfl) ?_
                      refine mz_Vv (As := []) (rest := []) ⟨hx, hb, hml, hown, hts⟩ hK hM hS (k_X13_next l D cy ld ad am hD _ _ _ _ v5673 gp hIF hIG hIR hf5672 hg_3 (by omega)) ⟨callB_of 0 hts (wl_in mw_685) rfl rfl rfl (htl _ mw_5) (htl _ mw_682) hd_yX13_next ⟨(Nat.le_of_ble_eq_true rfl), (Nat.le_of_ble_eq_true rfl)⟩, htl _ mw_683, htl _ mw_684⟩ rfl hl.1 rfl (Nat.le_of_ble_eq_true rfl) dX13_readLaw_177 ⟨(Nat.le_of_ble_eq_true rfl), (Nat.le_of_ble_eq_true rfl)⟩ (fun H locs F G R S hpo hM hS => ?_)
                      obtain ⟨hIF, hIG, hIR, hfr9, hrr9, hgr9, hpo6414, hpo6415, hpo6416, hpo6417, hpo6418⟩ := hpo
                      have hFF := mz_fr (K := [14, 15, 16, 18, 19, 21, 23, 26, 29, 30]) (Fa := Fa) hfr9 hFF (by decide)
                      have hRR := mz_fr (K := [22, 24, 25, 27, 28]) (Fa := Ra) hrr9 hRR (by decide)
                      have hGG := mz_fr (K := [17]) (Fa := Ga) hgr9 hGG (by decide)
                      have hg_3 := (hfr9 13 (by decide)).trans hg_3
                      have hg_6 := (hfr9 23 (by decide)).trans hg_6
                      have hf5678 := (hfr9 19 (by decide)).trans hf5678
                      have hf6393 := (hfr9 21 (by decide)).trans hf6393
                      obtain ⟨v6421, hf6420⟩ : ∃ z : Int32, F 14 = z := ⟨_, rfl⟩
                      have hq_v6421 := tk_rng v6421
                      rw [hf6420] at hpo6414 hpo6415 hpo6417 hpo6418
                      have hr_v6421 : 0 ≤ v6421.toInt ∧ v6421.toInt ≤ 400 := hIF.at hf6420
                      obtain ⟨v6423, hf6422⟩ : ∃ z : Int32, F 15 = z := ⟨_, rfl⟩
                      have hq_v6423 := tk_rng v6423
                      rw [hf6422] at hpo6415 hpo6416 hpo6417 hpo6418
                      have hr_v6423 : 0 ≤ v6423.toInt ∧ v6423.toInt ≤ 400 := hIF.at hf6422
                      obtain ⟨v6425, hf6424⟩ : ∃ z : Int32, F 16 = z := ⟨_, rfl⟩
                      have hq_v6425 := tk_rng v6425
                      rw [hf6424] at hpo6417 hpo6418
                      have hr_v6425 : 0 ≤ v6425.toInt ∧ v6425.toInt ≤ 3 := hIF.at hf6424
                      obtain ⟨w6427, hf6426⟩ : ∃ z : Int64, G 17 = z := ⟨_, rfl⟩
                      have hq_w6427 := tk_rngL w6427
                      rw [hf6426] at hpo6418
                      have hL22 := hL22.to (hrr9 22 (by decide))
                      have h22_0 := (congrFun (hrr9 22 (by decide)) _).trans h22_0
                      have h22_3 := (congrFun (hrr9 22 (by decide)) _).trans h22_3
                      have h22_4 := (congrFun (hrr9 22 (by decide)) _).trans h22_4
                      have h22_5 := (congrFun (hrr9 22 (by decide)) _).trans h22_5
                      have hC9 := hC
                      have hC : v5679.toInt = 0 → CLS 8 [3, 5] (R 24) (R 25) (Ra 22) gc.toInt gn.toInt := fun h9 => (hC9 (by omega)).to (hrr9 24 (by decide)) (hrr9 25 (by decide))
                      refine lv_aload_n hx hb dX13_readLaw_180 rfl (lv_at hl 3 rfl) ?_
                      refine lv_iconst (v := 1) hx hb dX13_readLaw_181 (by decide) ?_
                      have hk_1 : (1 : Int32).toInt = 1 := by decide
                      refine mz_Vv (As := [.int 1]) (rest := []) ⟨hx, hb, hml, hown, hts⟩ hK hM hS (k_X13_readExpression l D cy ld ad am hD _ _ _ _ 1 v6421 v6423 v6425 gp w6427 v5679 gc hIF hIG hIR hf6420 hf6422 hf6424 hg_3 hf6426 hf5678 hg_6 (by omega) (by omega) (by omega) (by omega) (by omega) (by omega) (by omega) (by omega)) ⟨callB_of 1 hts (wl_in mw_717) rfl rfl rfl (htl _ mw_5) (htl _ mw_714) hd_yX13_readExpression ⟨(Nat.le_of_ble_eq_true rfl), (Nat.le_of_ble_eq_true rfl)⟩, htl _ mw_715, htl _ mw_716⟩ rfl hl.1 rfl (Nat.le_of_ble_eq_true rfl) dX13_readLaw_182 ⟨(Nat.le_of_ble_eq_true rfl), (Nat.le_of_ble_eq_true rfl)⟩ (fun H locs F G R S hpo hM hS => ?_)
                      obtain ⟨hIF, hIG, hIR, hfr9, hrr9, hgr9, hpo6428, hpo6429, hpo6430, hpo6431, hpo6432, hpo6433, hpo6434, hx6435⟩ := hpo
                      have hFF := mz_fr (K := [14, 15, 16, 18, 19, 21, 23, 26, 29, 30]) (Fa := Fa) hfr9 hFF (by decide)
                      have hRR := mz_fr (K := [22, 24, 25, 27, 28]) (Fa := Ra) hrr9 hRR (by decide)
                      have hGG := mz_fr (K := [17]) (Fa := Ga) hgr9 hGG (by decide)
                      have hg_3 := (hfr9 13 (by decide)).trans hg_3
                      have hf6393 := (hfr9 21 (by decide)).trans hf6393
                      obtain ⟨v6438, hf6437⟩ : ∃ z : Int32, F 14 = z := ⟨_, rfl⟩
                      have hq_v6438 := tk_rng v6438
                      rw [hf6437] at hpo6428 hpo6430 hpo6431 hpo6432 hpo6433
                      have hr_v6438 : 0 ≤ v6438.toInt ∧ v6438.toInt ≤ 400 := hIF.at hf6437
                      obtain ⟨v6440, hf6439⟩ : ∃ z : Int32, F 15 = z := ⟨_, rfl⟩
                      have hq_v6440 := tk_rng v6440
                      rw [hf6439] at hpo6428 hpo6429 hpo6430 hpo6431
                      have hr_v6440 : 0 ≤ v6440.toInt ∧ v6440.toInt ≤ 400 := hIF.at hf6439
                      obtain ⟨v6442, hf6441⟩ : ∃ z : Int32, F 16 = z := ⟨_, rfl⟩
                      have hq_v6442 := tk_rng v6442
                      rw [hf6441] at hpo6430 hpo6431
                      have hr_v6442 : 0 ≤ v6442.toInt ∧ v6442.toInt ≤ 3 := hIF.at hf6441
                      obtain ⟨w6444, hf6443⟩ : ∃ z : Int64, G 17 = z := ⟨_, rfl⟩
                      have hq_w6444 := tk_rngL w6444
                      rw [hf6443] at hpo6431
                      obtain ⟨v6446, hf6445⟩ : ∃ z : Int32, F 19 = z := ⟨_, rfl⟩
                      have hq_v6446 := tk_rng v6446
                      have hr_v6446 : 0 ≤ v6446.toInt ∧ v6446.toInt ≤ 1 := hIF.at hf6445
                      obtain ⟨v6448, hf6447⟩ : ∃ z : Int32, F 23 = z := ⟨_, rfl⟩
                      have hq_v6448 := tk_rng v6448
                      rw [hf6447] at hpo6433 hpo6434
                      have hr_v6448 : 0 ≤ v6448.toInt ∧ v6448.toInt ≤ 400 := hIF.at hf6447
                      have hL22 := hL22.to (hrr9 22 (by decide))
                      have h22_0 := (congrFun (hrr9 22 (by decide)) _).trans h22_0
                      have h22_3 := (congrFun (hrr9 22 (by decide)) _).trans h22_3
                      have h22_4 := (congrFun (hrr9 22 (by decide)) _).trans h22_4
                      have h22_5 := (congrFun (hrr9 22 (by decide)) _).trans h22_5
                      have hE9 : v6446.toInt = 0 → WFC (R 24) (R 25) gc.toInt.toNat v6448.toInt.toNat ∧ low gc.toInt.toNat _ (R 24) ∧ low gc.toInt.toNat _ (R 25) := fun h9 => by have h8 := hx6435 (by rw [hf6445]; exact h9); rw [hf6447] at h8; exact h8
                      have hC9 := hC (by omega)
                      have hC : v6446.toInt = 0 → CLS 8 [3, 5] (R 24) (R 25) (Ra 22) gc.toInt gn.toInt := fun h9 => hC9.low (N := gc.toInt.toNat) (by omega) (hE9 h9).2.1 (hE9 h9).2.2
                      have hX6449 : v6446.toInt = 0 → WFX (R 24) (R 25) gc v6448 := fun h9 => ⟨by omega, by omega, by omega, (hE9 h9).1⟩
                      refine lv_aload_n hx hb dX13_readLaw_185 rfl (lv_at hl 3 rfl) ?_
                      refine mz_getR hx hb htl hown hK hM 22 (Nat.le_of_ble_eq_true rfl) (Nat.le_of_ble_eq_true rfl) (htl _ mw_197) (fun _ h9 => h9) dX13_readLaw_186 ?_
                      refine lv_iload_n hx hb dX13_readLaw_189 rfl (lv_at hl 1 rfl) ?_
                      refine lv_bipush (v := 6) hx hb dX13_readLaw_190 (by decide) ?_
                      refine lv_iadd hx hb dX13_readLaw_192 ?_
                      refine tk_add rfl (show (6 : Int32).toInt = 6 by decide) (by omega) (by omega) (fun v6450 h_v6450 => ?_)
                      refine lv_aload_n hx hb dX13_readLaw_193 rfl (lv_at hl 3 rfl) ?_
                      refine mz_getI hx hb htl hown hK hM 23 (Nat.le_of_ble_eq_true rfl) rfl (htl _ mw_670) (fun _ h9 => h9) dX13_readLaw_194 (fun v9 e9 => ?_)
                      refine fx_ti (v := v6448) (e9.symm.trans hf6447) ?_
                      refine mz_iast (x := v6448) hx hb hK hD hM hS 22 (Nat.le_of_ble_eq_true rfl) rfl (nn := 96) rfl rfl (by omega) (by omega) dX13_readLaw_197 (fun H locs R hM hS hw9 hj9 => ?_)
                      have hIR := hIR.put hw9 hj9 trivial
                      have hL22 : low (8 * gn.toInt.toNat) (Ra 22) (R 22) := fun j hj => by rw [hw9, pk_un (fun h9 => by have h8 := tk_nat (i := v6450) rfl (by omega); omega)]; exact hL22 j hj
                      have h22_0 : R 22 (8 * gn.toInt.toNat + 0) = v1070 := by rw [hw9, pk_un (fun h9 => by have h8 := tk_nat (i := v6450) rfl (by omega); omega)]; exact h22_0
                      have h22_3 : R 22 (8 * gn.toInt.toNat + 3) = gc := by rw [hw9, pk_un (fun h9 => by have h8 := tk_nat (i := v6450) rfl (by omega); omega)]; exact h22_3
                      have h22_4 : R 22 (8 * gn.toInt.toNat + 4) = gc := by rw [hw9, pk_un (fun h9 => by have h8 := tk_nat (i := v6450) rfl (by omega); omega)]; exact h22_4
                      have h22_5 : R 22 (8 * gn.toInt.toNat + 5) = gc := by rw [hw9, pk_un (fun h9 => by have h8 := tk_nat (i := v6450) rfl (by omega); omega)]; exact h22_5
                      have hC9 := hC
                      have hC : v6446.toInt = 0 → CLS 8 [3, 5] (R 24) (R 25) (Ra 22) gc.toInt gn.toInt := fun h9 => (hC9 (by omega)).to (hj9 24 (by decide)) (hj9 25 (by decide))
                      have hX64499 := hX6449
                      have hX6449 : v6446.toInt = 0 → WFX (R 24) (R 25) gc v6448 := fun h9 => by rw [hj9 24 (by decide), hj9 25 (by decide)]; exact hX64499 (by omega)
                      have h22_6 : R 22 (8 * gn.toInt.toNat + 6) = v6448 := by rw [hw9, show 8 * gn.toInt.toNat + 6 = (v6450 : Int32).toNatClampNeg by show _ = v6450.toInt.toNat; omega]; exact pk_us
                      have hRR := mz_frp (K := [22, 24, 25, 27, 28]) (Fa := Ra) hj9 hRR (by decide)
                      exact mz_vret hx hb hr hlocks ⟨hIF, hIG, hIR, hFF, hRR, hGG, (by rw [hf6437, hf6439]; omega), (by rw [hf6439]; omega), (by rw [hf6437, hf6439, hf6441]; omega), (by rw [hf6437, hf6439, hf6441, hf6443]; omega), (by rw [hf6437]; omega), (by rw [hf6447]; omega), (by rw [hf6437, hf6447]; omega), (by rw [hf6445]; omega), (by rw [hf6437, hf6445]; omega), (by rw [hf6445, hf6447, hf6393]; exact fun h9 => mz_snoc (N := gn.toInt.toNat) (hC h9) (by omega) (by omega) hL22 (by decide) (by omega) (by intro d hd; simp only [List.mem_cons, List.not_mem_nil, or_false] at hd; rcases hd with rfl | rfl <;> first | (rw [show 8 * gn.toInt.toNat + 3 + 1 = 8 * gn.toInt.toNat + 4 from rfl, h22_3, h22_4]; exact ⟨WFX.nil (by omega) (by omega), by omega⟩) | (rw [show 8 * gn.toInt.toNat + 5 + 1 = 8 * gn.toInt.toNat + 6 from rfl, h22_5, h22_6]; exact ⟨hX6449 h9, by omega⟩)))⟩ hM hS dX13_readLaw_198
                  · have hc6396 : ¬ (v1070.toInt = 3) := fun h9 => c9 ((fi_eq rfl (show (3 : Int32).toInt = 3 by decide)).mpr h9)
                    refine lv_aload_n hx hb dX13_readLaw_130 rfl (lv_at hl 3 rfl) ?_
                    refine lv_iconst (v := 0) hx hb dX13_readLaw_131 (by decide) ?_
                    have hk_0 : (0 : Int32).toInt = 0 := by decide
                    refine mz_Vv (As := [.int 0]) (rest := []) ⟨hx, hb, hml, hown, hts⟩ hK hM hS (k_X13_readExpression l D cy ld ad am hD _ _ _ _ 0 v5671 v5673 v5675 gp w5677 v5679 gc hIF hIG hIR hf5670 hf5672 hf5674 hg_3 hf5676 hf5678 hg_6 (by omega) (by omega) (by omega) (by omega) (by omega) (by omega) (by omega) (by omega)) ⟨callB_of 1 hts (wl_in mw_717) rfl rfl rfl (htl _ mw_5) (htl _ mw_714) hd_yX13_readExpression ⟨(Nat.le_of_ble_eq_true rfl), (Nat.le_of_ble_eq_true rfl)⟩, htl _ mw_715, htl _ mw_716⟩ rfl hl.1 rfl (Nat.le_of_ble_eq_true rfl) dX13_readLaw_132 ⟨(Nat.le_of_ble_eq_true rfl), (Nat.le_of_ble_eq_true rfl)⟩ (fun H locs F G R S hpo hM hS => ?_)
                    obtain ⟨hIF, hIG, hIR, hfr9, hrr9, hgr9, hpo6452, hpo6453, hpo6454, hpo6455, hpo6456, hpo6457, hpo6458, hx6459⟩ := hpo
                    have hFF := mz_fr (K := [14, 15, 16, 18, 19, 21, 23, 26, 29, 30]) (Fa := Fa) hfr9 hFF (by decide)
                    have hRR := mz_fr (K := [22, 24, 25, 27, 28]) (Fa := Ra) hrr9 hRR (by decide)
                    have hGG := mz_fr (K := [17]) (Fa := Ga) hgr9 hGG (by decide)
                    have hg_3 := (hfr9 13 (by decide)).trans hg_3
                    have hf6393 := (hfr9 21 (by decide)).trans hf6393
                    obtain ⟨v6462, hf6461⟩ : ∃ z : Int32, F 14 = z := ⟨_, rfl⟩
                    have hq_v6462 := tk_rng v6462
                    rw [hf6461] at hpo6452 hpo6454 hpo6455 hpo6456 hpo6457
                    have hr_v6462 : 0 ≤ v6462.toInt ∧ v6462.toInt ≤ 400 := hIF.at hf6461
                    obtain ⟨v6464, hf6463⟩ : ∃ z : Int32, F 15 = z := ⟨_, rfl⟩
                    have hq_v6464 := tk_rng v6464
                    rw [hf6463] at hpo6452 hpo6453 hpo6454 hpo6455
                    have hr_v6464 : 0 ≤ v6464.toInt ∧ v6464.toInt ≤ 400 := hIF.at hf6463
                    obtain ⟨v6466, hf6465⟩ : ∃ z : Int32, F 16 = z := ⟨_, rfl⟩
                    have hq_v6466 := tk_rng v6466
                    rw [hf6465] at hpo6454 hpo6455
                    have hr_v6466 : 0 ≤ v6466.toInt ∧ v6466.toInt ≤ 3 := hIF.at hf6465
                    obtain ⟨w6468, hf6467⟩ : ∃ z : Int64, G 17 = z := ⟨_, rfl⟩
                    have hq_w6468 := tk_rngL w6468
                    rw [hf6467] at hpo6455
                    obtain ⟨v6470, hf6469⟩ : ∃ z : Int32, F 19 = z := ⟨_, rfl⟩
                    have hq_v6470 := tk_rng v6470
                    have hr_v6470 : 0 ≤ v6470.toInt ∧ v6470.toInt ≤ 1 := hIF.at hf6469
                    obtain ⟨v6472, hf6471⟩ : ∃ z : Int32, F 23 = z := ⟨_, rfl⟩
                    have hq_v6472 := tk_rng v6472
                    rw [hf6471] at hpo6457 hpo6458
                    have hr_v6472 : 0 ≤ v6472.toInt ∧ v6472.toInt ≤ 400 := hIF.at hf6471
                    have hL22 := hL22.to (hrr9 22 (by decide))
                    have h22_0 := (congrFun (hrr9 22 (by decide)) _).trans h22_0
                    have h22_3 := (congrFun (hrr9 22 (by decide)) _).trans h22_3
                    have hE9 : v6470.toInt = 0 → WFC (R 24) (R 25) gc.toInt.toNat v6472.toInt.toNat ∧ low gc.toInt.toNat _ (R 24) ∧ low gc.toInt.toNat _ (R 25) := fun h9 => by have h8 := hx6459 (by rw [hf6469]; exact h9); rw [hf6471] at h8; exact h8
                    have hC9 := hC (by omega)
                    have hC : v6470.toInt = 0 → CLS 8 [3, 5] (R 24) (R 25) (Ra 22) gc.toInt gn.toInt := fun h9 => hC9.low (N := gc.toInt.toNat) (by omega) (hE9 h9).2.1 (hE9 h9).2.2
                    have hX6473 : v6470.toInt = 0 → WFX (R 24) (R 25) gc v6472 := fun h9 => ⟨by omega, by omega, by omega, (hE9 h9).1⟩
                    refine lv_aload_n hx hb dX13_readLaw_135 rfl (lv_at hl 3 rfl) ?_
                    refine mz_getR hx hb htl hown hK hM 22 (Nat.le_of_ble_eq_true rfl) (Nat.le_of_ble_eq_true rfl) (htl _ mw_197) (fun _ h9 => h9) dX13_readLaw_136 ?_
                    refine lv_iload_n hx hb dX13_readLaw_139 rfl (lv_at hl 1 rfl) ?_
                    refine lv_iconst (v := 4) hx hb dX13_readLaw_140 (by decide) ?_
                    refine lv_iadd hx hb dX13_readLaw_141 ?_
                    refine tk_add rfl (show (4 : Int32).toInt = 4 by decide) (by omega) (by omega) (fun v6474 h_v6474 => ?_)
                    refine lv_aload_n hx hb dX13_readLaw_142 rfl (lv_at hl 3 rfl) ?_
                    refine mz_getI hx hb htl hown hK hM 23 (Nat.le_of_ble_eq_true rfl) rfl (htl _ mw_670) (fun _ h9 => h9) dX13_readLaw_143 (fun v9 e9 => ?_)
                    refine fx_ti (v := v6472) (e9.symm.trans hf6471) ?_
                    refine mz_iast (x := v6472) hx hb hK hD hM hS 22 (Nat.le_of_ble_eq_true rfl) rfl (nn := 96) rfl rfl (by omega) (by omega) dX13_readLaw_146 (fun H locs R hM hS hw9 hj9 => ?_)
                    have hIR := hIR.put hw9 hj9 trivial
                    have hL22 : low (8 * gn.toInt.toNat) (Ra 22) (R 22) := fun j hj => by rw [hw9, pk_un (fun h9 => by have h8 := tk_nat (i := v6474) rfl (by omega); omega)]; exact hL22 j hj
                    have h22_0 : R 22 (8 * gn.toInt.toNat + 0) = v1070 := by rw [hw9, pk_un (fun h9 => by have h8 := tk_nat (i := v6474) rfl (by omega); omega)]; exact h22_0
                    have h22_3 : R 22 (8 * gn.toInt.toNat + 3) = gc := by rw [hw9, pk_un (fun h9 => by have h8 := tk_nat (i := v6474) rfl (by omega); omega)]; exact h22_3
                    have hC9 := hC
                    have hC : v6470.toInt = 0 → CLS 8 [3, 5] (R 24) (R 25) (Ra 22) gc.toInt gn.toInt := fun h9 => (hC9 (by omega)).to (hj9 24 (by decide)) (hj9 25 (by decide))
                    have hX64739 := hX6473
                    have hX6473 : v6470.toInt = 0 → WFX (R 24) (R 25) gc v6472 := fun h9 => by rw [hj9 24 (by decide), hj9 25 (by decide)]; exact hX64739 (by omega)
                    have h22_4 : R 22 (8 * gn.toInt.toNat + 4) = v6472 := by rw [hw9, show 8 * gn.toInt.toNat + 4 = (v6474 : Int32).toNatClampNeg by show _ = v6474.toInt.toNat; omega]; exact pk_us
                    have hRR := mz_frp (K := [22, 24, 25, 27, 28]) (Fa := Ra) hj9 hRR (by decide)
                    refine lv_aload_n hx hb dX13_readLaw_147 rfl (lv_at hl 3 rfl) ?_
                    refine mz_getR hx hb htl hown hK hM 22 (Nat.le_of_ble_eq_true rfl) (Nat.le_of_ble_eq_true rfl) (htl _ mw_197) (fun _ h9 => h9) dX13_readLaw_148 ?_
                    refine lv_iload_n hx hb dX13_readLaw_151 rfl (lv_at hl 1 rfl) ?_
                    refine lv_iconst (v := 5) hx hb dX13_readLaw_152 (by decide) ?_
                    refine lv_iadd hx hb dX13_readLaw_153 ?_
                    refine tk_add rfl (show (5 : Int32).toInt = 5 by decide) (by omega) (by omega) (fun v6476 h_v6476 => ?_)
                    refine lv_aload_n hx hb dX13_readLaw_154 rfl (lv_at hl 3 rfl) ?_
                    refine mz_getI hx hb htl hown hK hM 23 (Nat.le_of_ble_eq_true rfl) rfl (htl _ mw_670) (fun _ h9 => h9) dX13_readLaw_155 (fun v9 e9 => ?_)
                    refine fx_ti (v := v6472) (e9.symm.trans hf6471) ?_
                    refine mz_iast (x := v6472) hx hb hK hD hM hS 22 (Nat.le_of_ble_eq_true rfl) rfl (nn := 96) rfl rfl (by omega) (by omega) dX13_readLaw_158 (fun H locs R hM hS hw9 hj9 => ?_)
                    have hIR := hIR.put hw9 hj9 trivial
                    have hL22 : low (8 * gn.toInt.toNat) (Ra 22) (R 22) := fun j hj => by rw [hw9, pk_un (fun h9 => by have h8 := tk_nat (i := v6476) rfl (by omega); omega)]; exact hL22 j hj
                    have h22_0 : R 22 (8 * gn.toInt.toNat + 0) = v1070 := by rw [hw9, pk_un (fun h9 => by have h8 := tk_nat (i := v6476) rfl (by omega); omega)]; exact h22_0
                    have h22_3 : R 22 (8 * gn.toInt.toNat + 3) = gc := by rw [hw9, pk_un (fun h9 => by have h8 := tk_nat (i := v6476) rfl (by omega); omega)]; exact h22_3
                    have h22_4 : R 22 (8 * gn.toInt.toNat + 4) = v6472 := by rw [hw9, pk_un (fun h9 => by have h8 := tk_nat (i := v6476) rfl (by omega); omega)]; exact h22_4
                    have hC9 := hC
                    have hC : v6470.toInt = 0 → CLS 8 [3, 5] (R 24) (R 25) (Ra 22) gc.toInt gn.toInt := fun h9 => (hC9 (by omega)).to (hj9 24 (by decide)) (hj9 25 (by decide))
                    have hX64739 := hX6473
                    have hX6473 : v6470.toInt = 0 → WFX (R 24) (R 25) gc v6472 := fun h9 => by rw [hj9 24 (by decide), hj9 25 (by decide)]; exact hX64739 (by omega)
                    have h22_5 : R 22 (8 * gn.toInt.toNat + 5) = v6472 := by rw [hw9, show 8 * gn.toInt.toNat + 5 = (v6476 : Int32).toNatClampNeg by show _ = v6476.toInt.toNat; omega]; exact pk_us
                    have hRR := mz_frp (K := [22, 24, 25, 27, 28]) (Fa := Ra) hj9 hRR (by decide)
                    refine lv_aload_n hx hb dX13_readLaw_159 rfl (lv_at hl 3 rfl) ?_
                    refine mz_getI hx hb htl hown hK hM 19 (Nat.le_of_ble_eq_true rfl) rfl (htl _ mw_668) (fun _ h9 => h9) dX13_readLaw_160 (fun v9 e9 => ?_)
                    refine fx_ti (v := v6470) (e9.symm.trans hf6469) ?_
                    refine lv_if_ne (tgt := 185) hx hb dX13_readLaw_163 (by decide) (fun c9 => ?_) (fun c9 => ?_)
                    · have hc6478 : ¬ (v6470.toInt = 0) := fun h9 => c9 ((fi_eq rfl (show (0 : Int32).toInt = 0 by decide)).mpr h9)
                      refine lv_aload_n hx hb dX13_readLaw_185 rfl (lv_at hl 3 rfl) ?_
                      refine mz_getR hx hb htl hown hK hM 22 (Nat.le_of_ble_eq_true rfl) (Nat.le_of_ble_eq_true rfl) (htl _ mw_197) (fun _ h9 => h9) dX13_readLaw_186 ?_
                      refine lv_iload_n hx hb dX13_readLaw_189 rfl (lv_at hl 1 rfl) ?_
                      refine lv_bipush (v := 6) hx hb dX13_readLaw_190 (by decide) ?_
                      refine lv_iadd hx hb dX13_readLaw_192 ?_
                      refine tk_add rfl (show (6 : Int32).toInt = 6 by decide) (by omega) (by omega) (fun v6479 h_v6479 => ?_)
                      refine lv_aload_n hx hb dX13_readLaw_193 rfl (lv_at hl 3 rfl) ?_
                      refine mz_getI hx hb htl hown hK hM 23 (Nat.le_of_ble_eq_true rfl) rfl (htl _ mw_670) (fun _ h9 => h9) dX13_readLaw_194 (fun v9 e9 => ?_)
                      refine fx_ti (v := v6472) (e9.symm.trans hf6471) ?_
                      refine mz_iast (x := v6472) hx hb hK hD hM hS 22 (Nat.le_of_ble_eq_true rfl) rfl (nn := 96) rfl rfl (by omega) (by omega) dX13_readLaw_197 (fun H locs R hM hS hw9 hj9 => ?_)
                      have hIR := hIR.put hw9 hj9 trivial
                      have hL22 : low (8 * gn.toInt.toNat) (Ra 22) (R 22) := fun j hj => by rw [hw9, pk_un (fun h9 => by have h8 := tk_nat (i := v6479) rfl (by omega); omega)]; exact hL22 j hj
                      have h22_0 : R 22 (8 * gn.toInt.toNat + 0) = v1070 := by rw [hw9, pk_un (fun h9 => by have h8 := tk_nat (i := v6479) rfl (by omega); omega)]; exact h22_0
                      have h22_3 : R 22 (8 * gn.toInt.toNat + 3) = gc := by rw [hw9, pk_un (fun h9 => by have h8 := tk_nat (i := v6479) rfl (by omega); omega)]; exact h22_3
                      have h22_4 : R 22 (8 * gn.toInt.toNat + 4) = v6472 := by rw [hw9, pk_un (fun h9 => by have h8 := tk_nat (i := v6479) rfl (by omega); omega)]; exact h22_4
                      have h22_5 : R 22 (8 * gn.toInt.toNat + 5) = v6472 := by rw [hw9, pk_un (fun h9 => by have h8 := tk_nat (i := v6479) rfl (by omega); omega)]; exact h22_5
                      have hC9 := hC
                      have hC : v6470.toInt = 0 → CLS 8 [3, 5] (R 24) (R 25) (Ra 22) gc.toInt gn.toInt := fun h9 => (hC9 (by omega)).to (hj9 24 (by decide)) (hj9 25 (by decide))
                      have hX64739 := hX6473
                      have hX6473 : v6470.toInt = 0 → WFX (R 24) (R 25) gc v6472 := fun h9 => by rw [hj9 24 (by decide), hj9 25 (by decide)]; exact hX64739 (by omega)
                      have h22_6 : R 22 (8 * gn.toInt.toNat + 6) = v6472 := by rw [hw9, show 8 * gn.toInt.toNat + 6 = (v6479 : Int32).toNatClampNeg by show _ = v6479.toInt.toNat; omega]; exact pk_us
                      have hRR := mz_frp (K := [22, 24, 25, 27, 28]) (Fa := Ra) hj9 hRR (by decide)
                      exact mz_vret hx hb hr hlocks ⟨hIF, hIG, hIR, hFF, hRR, hGG, (by rw [hf6461, hf6463]; omega), (by rw [hf6463]; omega), (by rw [hf6461, hf6463, hf6465]; omega), (by rw [hf6461, hf6463, hf6465, hf6467]; omega), (by rw [hf6461]; omega), (by rw [hf6471]; omega), (by rw [hf6461, hf6471]; omega), (by rw [hf6469]; omega), (by rw [hf6461, hf6469]; omega), (by rw [hf6469]; exact fun h9 => absurd h9 (by omega))⟩ hM hS dX13_readLaw_198
                    · have hc6478 : v6470.toInt = 0 := (fi_eq rfl (show (0 : Int32).toInt = 0 by decide)).mp c9
                      refine lv_aload_n hx hb dX13_readLaw_166 rfl (lv_at hl 3 rfl) ?_
                      refine lv_ldc2 hx hb hown (htl _ mw_705) dX13_readLaw_167 ?_
                      have hk_294 : (294 : Int64).toInt = 294 := by decide
                      refine mz_Vj (As := [.long 294]) (rest := []) ⟨hx, hb, hml, hown, hts⟩ hK hM hS (k_X13_isWord l D cy ld ad am hD _ _ _ _ 294 v6466 w6468 hIF hIG hIR hf6465 hf6467) ⟨callB_of 1 hts (wl_in mw_709) rfl rfl rfl (htl _ mw_5) (htl _ mw_706) hd_yX13_isWord ⟨(Nat.le_of_ble_eq_true rfl), (Nat.le_of_ble_eq_true rfl)⟩, htl _ mw_707, htl _ mw_708⟩ rfl hl.1 rfl (Nat.le_of_ble_eq_true rfl) dX13_readLaw_170 ⟨(Nat.le_of_ble_eq_true rfl), (Nat.le_of_ble_eq_true rfl)⟩ (fun v6481 H locs hpo hM hS => ?_)
                      obtain ⟨hpo6482, hpo6483, hpo6484, hpo6485, hpo6486⟩ := hpo
                      have hq_v6481 := tk_rng v6481
                      refine lv_if_eq (tgt := 185) hx hb dX13_readLaw_173 (by decide) (fun c9 => ?_) (fun c9 => ?_)
                      · have hc6488 : v6481.toInt = 0 := (fi_eq rfl (show (0 : Int32).toInt = 0 by decide)).mp c9
                        refine lv_aload_n hx hb dX13_readLaw_185 rfl (lv_at hl 3 rfl) ?_
                        refine mz_getR hx hb htl hown hK hM 22 (Nat.le_of_ble_eq_true rfl) (Nat.le_of_ble_eq_true rfl) (htl _ mw_197) (fun _ h9 => h9) dX13_readLaw_186 ?_
                        refine lv_iload_n hx hb dX13_readLaw_189 rfl (lv_at hl 1 rfl) ?_
                        refine lv_bipush (v := 6) hx hb dX13_readLaw_190 (by decide) ?_
                        refine lv_iadd hx hb dX13_readLaw_192 ?_
                        refine tk_add rfl (show (6 : Int32).toInt = 6 by decide) (by omega) (by omega) (fun v6489 h_v6489 => ?_)
                        refine lv_aload_n hx hb dX13_readLaw_193 rfl (lv_at hl 3 rfl) ?_
                        refine mz_getI hx hb htl hown hK hM 23 (Nat.le_of_ble_eq_true rfl) rfl (htl _ mw_670) (fun _ h9 => h9) dX13_readLaw_194 (fun v9 e9 => ?_)
                        refine fx_ti (v := v6472) (e9.symm.trans hf6471) ?_
                        refine mz_iast (x := v6472) hx hb hK hD hM hS 22 (Nat.le_of_ble_eq_true rfl) rfl (nn := 96) rfl rfl (by omega) (by omega) dX13_readLaw_197 (fun H locs R hM hS hw9 hj9 => ?_)
                        have hIR := hIR.put hw9 hj9 trivial
                        have hL22 : low (8 * gn.toInt.toNat) (Ra 22) (R 22) := fun j hj => by rw [hw9, pk_un (fun h9 => by have h8 := tk_nat (i := v6489) rfl (by omega); omega)]; exact hL22 j hj
                        have h22_0 : R 22 (8 * gn.toInt.toNat + 0) = v1070 := by rw [hw9, pk_un (fun h9 => by have h8 := tk_nat (i := v6489) rfl (by omega); omega)]; exact h22_0
                        have h22_3 : R 22 (8 * gn.toInt.toNat + 3) = gc := by rw [hw9, pk_un (fun h9 => by have h8 := tk_nat (i := v6489) rfl (by omega); omega)]; exact h22_3
                        have h22_4 : R 22 (8 * gn.toInt.toNat + 4) = v6472 := by rw [hw9, pk_un (fun h9 => by have h8 := tk_nat (i := v6489) rfl (by omega); omega)]; exact h22_4
                        have h22_5 : R 22 (8 * gn.toInt.toNat + 5) = v6472 := by rw [hw9, pk_un (fun h9 => by have h8 := tk_nat (i := v6489) rfl (by omega); omega)]; exact h22_5
                        have hC9 := hC
                        have hC : v6470.toInt = 0 → CLS 8 [3, 5] (R 24) (R 25) (Ra 22) gc.toInt gn.toInt := fun h9 => (hC9 (by omega)).to (hj9 24 (by decide)) (hj9 25 (by decide))
                        have hX64739 := hX6473
                        have hX6473 : v6470.toInt = 0 → WFX (R 24) (R 25) gc v6472 := fun h9 => by rw [hj9 24 (by decide), hj9 25 (by decide)]; exact hX64739 (by omega)
                        have h22_6 : R 22 (8 * gn.toInt.toNat + 6) = v6472 := by rw [hw9, show 8 * gn.toInt.toNat + 6 = (v6489 : Int32).toNatClampNeg by show _ = v6489.toInt.toNat; omega]; exact pk_us
                        have hRR := mz_frp (K := [22, 24, 25, 27, 28]) (Fa := Ra) hj9 hRR (by decide)
                        exact mz_vret hx hb hr hlocks ⟨hIF, hIG, hIR, hFF, hRR, hGG, (by rw [hf6461, hf6463]; omega), (by rw [hf6463]; omega), (by rw [hf6461, hf6463, hf6465]; omega), (by rw [hf6461, hf6463, hf6465, hf6467]; omega), (by rw [hf6461]; omega), (by rw [hf6471]; omega), (by rw [hf6461, hf6471]; omega), (by rw [hf6469]; omega), (by rw [hf6461, hf6469]; omega), (by rw [hf6469, hf6471, hf6393]; exact fun h9 => mz_snoc (N := gn.toInt.toNat) (hC h9) (by omega) (by omega) hL22 (by decide) (by omega) (by intro d hd; simp only [List.mem_cons, List.not_mem_nil, or_false] at hd; rcases hd with rfl | rfl <;> first | (rw [show 8 * gn.toInt.toNat + 3 + 1 = 8 * gn.toInt.toNat + 4 from rfl, h22_3, h22_4]; exact ⟨hX6473 h9, by omega⟩) | (rw [show 8 * gn.toInt.toNat + 5 + 1 = 8 * gn.toInt.toNat + 6 from rfl, h22_5, h22_6]; exact ⟨WFX.nil (by omega) (by omega), by omega⟩)))⟩ hM hS dX13_readLaw_198
                      · have hc6488 : ¬ (v6481.toInt = 0) := fun h9 => c9 ((fi_eq rfl (show (0 : Int32).toInt = 0 by decide)).mpr h9)
                        have hwk_6491 : w6468.toInt + (-294) = 0 ∧ v6466.toInt + (-1) = 0 := by omega
                        have hwk_6492 : 0 ≤ (-1) * v6462.toInt + v6464.toInt + (-1) := by omega
                        have hwk_6493 : 0 ≤ (-1) * v6462.toInt + v6464.toInt + (-2) := by omega
                        refine lv_aload_n hx hb dX13_readLaw_176 rfl (lv_at hl 3 rfl) ?_
                        refine mz_Vv (As := []) (rest := []) ⟨hx, hb, hml, hown, hts⟩ hK hM hS (k_X13_next l D cy ld ad am hD _ _ _ _ v6464 gp hIF hIG hIR hf6463 hg_3 (by omega)) ⟨callB_of 0 hts (wl_in mw_685) rfl rfl rfl (htl _ mw_5) (htl _ mw_682) hd_yX13_next ⟨(Nat.le_of_ble_eq_true rfl), (Nat.le_of_ble_eq_true rfl)⟩, htl _ mw_683, htl _ mw_684⟩ rfl hl.1 rfl (Nat.le_of_ble_eq_true rfl) dX13_readLaw_177 ⟨(Nat.le_of_ble_eq_true rfl), (Nat.le_of_ble_eq_true rfl)⟩ (fun H locs F G R S hpo hM hS => ?_)
                        obtain ⟨hIF, hIG, hIR, hfr9, hrr9, hgr9, hpo6494, hpo6495, hpo6496, hpo6497, hpo6498⟩ := hpo
                        have hFF := mz_fr (K := [14, 15, 16, 18, 19, 21, 23, 26, 29, 30]) (Fa := Fa) hfr9 hFF (by decide)
                        have hRR := mz_fr (K := [22, 24, 25, 27, 28]) (Fa := Ra) hrr9 hRR (by decide)
                        have hGG := mz_fr (K := [17]) (Fa := Ga) hgr9 hGG (by decide)
                        have hg_3 := (hfr9 13 (by decide)).trans hg_3
                        have hf6393 := (hfr9 21 (by decide)).trans hf6393
                        have hf6469 := (hfr9 19 (by decide)).trans hf6469
                        have hf6471 := (hfr9 23 (by decide)).trans hf6471
                        obtain ⟨v6501, hf6500⟩ : ∃ z : Int32, F 14 = z := ⟨_, rfl⟩
                        have hq_v6501 := tk_rng v6501
                        rw [hf6500] at hpo6494 hpo6495 hpo6497 hpo6498
                        have hr_v6501 : 0 ≤ v6501.toInt ∧ v6501.toInt ≤ 400 := hIF.at hf6500
                        obtain ⟨v6503, hf6502⟩ : ∃ z : Int32, F 15 = z := ⟨_, rfl⟩
                        have hq_v6503 := tk_rng v6503
                        rw [hf6502] at hpo6495 hpo6496 hpo6497 hpo6498
                        have hr_v6503 : 0 ≤ v6503.toInt ∧ v6503.toInt ≤ 400 := hIF.at hf6502
                        obtain ⟨v6505, hf6504⟩ : ∃ z : Int32, F 16 = z := ⟨_, rfl⟩
                        have hq_v6505 := tk_rng v6505
                        rw [hf6504] at hpo6497 hpo6498
                        have hr_v6505 : 0 ≤ v6505.toInt ∧ v6505.toInt ≤ 3 := hIF.at hf6504
                        obtain ⟨w6507, hf6506⟩ : ∃ z : Int64, G 17 = z := ⟨_, rfl⟩
                        have hq_w6507 := tk_rngL w6507
                        rw [hf6506] at hpo6498
                        have hL22 := hL22.to (hrr9 22 (by decide))
                        have h22_0 := (congrFun (hrr9 22 (by decide)) _).trans h22_0
                        have h22_3 := (congrFun (hrr9 22 (by decide)) _).trans h22_3
                        have h22_4 := (congrFun (hrr9 22 (by decide)) _).trans h22_4
                        have h22_5 := (congrFun (hrr9 22 (by decide)) _).trans h22_5
                        have hC9 := hC
                        have hC : v6470.toInt = 0 → CLS 8 [3, 5] (R 24) (R 25) (Ra 22) gc.toInt gn.toInt := fun h9 => (hC9 (by omega)).to (hrr9 24 (by decide)) (hrr9 25 (by decide))
                        have hX64739 := hX6473
                        have hX6473 : v6470.toInt = 0 → WFX (R 24) (R 25) gc v6472 := fun h9 => by rw [hrr9 24 (by decide), hrr9 25 (by decide)]; exact hX64739 (by omega)
                        refine lv_aload_n hx hb dX13_readLaw_180 rfl (lv_at hl 3 rfl) ?_
                        refine lv_iconst (v := 1) hx hb dX13_readLaw_181 (by decide) ?_
                        have hk_1 : (1 : Int32).toInt = 1 := by decide
                        refine mz_Vv (As := [.int 1]) (rest := []) ⟨hx, hb, hml, hown, hts⟩ hK hM hS (k_X13_readExpression l D cy ld ad am hD _ _ _ _ 1 v6501 v6503 v6505 gp w6507 v6470 v6472 hIF hIG hIR hf6500 hf6502 hf6504 hg_3 hf6506 hf6469 hf6471 (by omega) (by omega) (by omega) (by omega) (by omega) (by omega) (by omega) (by omega)) ⟨callB_of 1 hts (wl_in mw_717) rfl rfl rfl (htl _ mw_5) (htl _ mw_714) hd_yX13_readExpression ⟨(Nat.le_of_ble_eq_true rfl), (Nat.le_of_ble_eq_true rfl)⟩, htl _ mw_715, htl _ mw_716⟩ rfl hl.1 rfl (Nat.le_of_ble_eq_true rfl) dX13_readLaw_182 ⟨(Nat.le_of_ble_eq_true rfl), (Nat.le_of_ble_eq_true rfl)⟩ (fun H locs F G R S hpo hM hS => ?_)
                        obtain ⟨hIF, hIG, hIR, hfr9, hrr9, hgr9, hpo6508, hpo6509, hpo6510, hpo6511, hpo6512, hpo6513, hpo6514, hx6515⟩ := hpo
                        have hFF := mz_fr (K := [14, 15, 16, 18, 19, 21, 23, 26, 29, 30]) (Fa := Fa) hfr9 hFF (by decide)
                        have hRR := mz_fr (K := [22, 24, 25, 27, 28]) (Fa := Ra) hrr9 hRR (by decide)
                        have hGG := mz_fr (K := [17]) (Fa := Ga) hgr9 hGG (by decide)
                        have hg_3 := (hfr9 13 (by decide)).trans hg_3
                        have hf6393 := (hfr9 21 (by decide)).trans hf6393
                        obtain ⟨v6518, hf6517⟩ : ∃ z : Int32, F 14 = z := ⟨_, rfl⟩
                        have hq_v6518 := tk_rng v6518
                        rw [hf6517] at hpo6508 hpo6510 hpo6511 hpo6512 hpo6513
                        have hr_v6518 : 0 ≤ v6518.toInt ∧ v6518.toInt ≤ 400 := hIF.at hf6517
                        obtain ⟨v6520, hf6519⟩ : ∃ z : Int32, F 15 = z := ⟨_, rfl⟩
                        have hq_v6520 := tk_rng v6520
                        rw [hf6519] at hpo6508 hpo6509 hpo6510 hpo6511
                        have hr_v6520 : 0 ≤ v6520.toInt ∧ v6520.toInt ≤ 400 := hIF.at hf6519
                        obtain ⟨v6522, hf6521⟩ : ∃ z : Int32, F 16 = z := ⟨_, rfl⟩
                        have hq_v6522 := tk_rng v6522
                        rw [hf6521] at hpo6510 hpo6511
                        have hr_v6522 : 0 ≤ v6522.toInt ∧ v6522.toInt ≤ 3 := hIF.at hf6521
                        obtain ⟨w6524, hf6523⟩ : ∃ z : Int64, G 17 = z := ⟨_, rfl⟩
                        have hq_w6524 := tk_rngL w6524
                        rw [hf6523] at hpo6511
                        obtain ⟨v6526, hf6525⟩ : ∃ z : Int32, F 19 = z := ⟨_, rfl⟩
                        have hq_v6526 := tk_rng v6526
                        have hr_v6526 : 0 ≤ v6526.toInt ∧ v6526.toInt ≤ 1 := hIF.at hf6525
                        obtain ⟨v6528, hf6527⟩ : ∃ z : Int32, F 23 = z := ⟨_, rfl⟩
                        have hq_v6528 := tk_rng v6528
                        rw [hf6527] at hpo6513 hpo6514
                        have hr_v6528 : 0 ≤ v6528.toInt ∧ v6528.toInt ≤ 400 := hIF.at hf6527
                        have hL22 := hL22.to (hrr9 22 (by decide))
                        have h22_0 := (congrFun (hrr9 22 (by decide)) _).trans h22_0
                        have h22_3 := (congrFun (hrr9 22 (by decide)) _).trans h22_3
                        have h22_4 := (congrFun (hrr9 22 (by decide)) _).trans h22_4
                        have h22_5 := (congrFun (hrr9 22 (by decide)) _).trans h22_5
                        have hE9 : v6526.toInt = 0 → WFC (R 24) (R 25) v6472.toInt.toNat v6528.toInt.toNat ∧ low v6472.toInt.toNat _ (R 24) ∧ low v6472.toInt.toNat _ (R 25) := fun h9 => by have h8 := hx6515 (by rw [hf6525]; exact h9); rw [hf6527] at h8; exact h8
                        have hC9 := hC (by omega)
                        have hC : v6526.toInt = 0 → CLS 8 [3, 5] (R 24) (R 25) (Ra 22) gc.toInt gn.toInt := fun h9 => hC9.low (N := v6472.toInt.toNat) (by omega) (hE9 h9).2.1 (hE9 h9).2.2
                        have hX64739 := hX6473 (by omega)
                        have hX6473 : v6526.toInt = 0 → WFX (R 24) (R 25) gc v6472 := fun h9 => hX64739.low (n := v6472.toInt.toNat) (by omega) (hE9 h9).2.1 (hE9 h9).2.2
                        have hX6529 : v6526.toInt = 0 → WFX (R 24) (R 25) v6472 v6528 := fun h9 => ⟨by omega, by omega, by omega, (hE9 h9).1⟩
                        refine lv_aload_n hx hb dX13_readLaw_185 rfl (lv_at hl 3 rfl) ?_
                        refine mz_getR hx hb htl hown hK hM 22 (Nat.le_of_ble_eq_true rfl) (Nat.le_of_ble_eq_true rfl) (htl _ mw_197) (fun _ h9 => h9) dX13_readLaw_186 ?_
                        refine lv_iload_n hx hb dX13_readLaw_189 rfl (lv_at hl 1 rfl) ?_
                        refine lv_bipush (v := 6) hx hb dX13_readLaw_190 (by decide) ?_
                        refine lv_iadd hx hb dX13_readLaw_192 ?_
                        refine tk_add rfl (show (6 : Int32).toInt = 6 by decide) (by omega) (by omega) (fun v6530 h_v6530 => ?_)
                        refine lv_aload_n hx hb dX13_readLaw_193 rfl (lv_at hl 3 rfl) ?_
                        refine mz_getI hx hb htl hown hK hM 23 (Nat.le_of_ble_eq_true rfl) rfl (htl _ mw_670) (fun _ h9 => h9) dX13_readLaw_194 (fun v9 e9 => ?_)
                        refine fx_ti (v := v6528) (e9.symm.trans hf6527) ?_
                        refine mz_iast (x := v6528) hx hb hK hD hM hS 22 (Nat.le_of_ble_eq_true rfl) rfl (nn := 96) rfl rfl (by omega) (by omega) dX13_readLaw_197 (fun H locs R hM hS hw9 hj9 => ?_)
                        have hIR := hIR.put hw9 hj9 trivial
                        have hL22 : low (8 * gn.toInt.toNat) (Ra 22) (R 22) := fun j hj => by rw [hw9, pk_un (fun h9 => by have h8 := tk_nat (i := v6530) rfl (by omega); omega)]; exact hL22 j hj
                        have h22_0 : R 22 (8 * gn.toInt.toNat + 0) = v1070 := by rw [hw9, pk_un (fun h9 => by have h8 := tk_nat (i := v6530) rfl (by omega); omega)]; exact h22_0
                        have h22_3 : R 22 (8 * gn.toInt.toNat + 3) = gc := by rw [hw9, pk_un (fun h9 => by have h8 := tk_nat (i := v6530) rfl (by omega); omega)]; exact h22_3
                        have h22_4 : R 22 (8 * gn.toInt.toNat + 4) = v6472 := by rw [hw9, pk_un (fun h9 => by have h8 := tk_nat (i := v6530) rfl (by omega); omega)]; exact h22_4
                        have h22_5 : R 22 (8 * gn.toInt.toNat + 5) = v6472 := by rw [hw9, pk_un (fun h9 => by have h8 := tk_nat (i := v6530) rfl (by omega); omega)]; exact h22_5
                        have hC9 := hC
                        have hC : v6526.toInt = 0 → CLS 8 [3, 5] (R 24) (R 25) (Ra 22) gc.toInt gn.toInt := fun h9 => (hC9 (by omega)).to (hj9 24 (by decide)) (hj9 25 (by decide))
                        have hX64739 := hX6473
                        have hX6473 : v6526.toInt = 0 → WFX (R 24) (R 25) gc v6472 := fun h9 => by rw [hj9 24 (by decide), hj9 25 (by decide)]; exact hX64739 (by omega)
                        have hX65299 := hX6529
                        have hX6529 : v6526.toInt = 0 → WFX (R 24) (R 25) v6472 v6528 := fun h9 => by rw [hj9 24 (by decide), hj9 25 (by decide)]; exact hX65299 (by omega)
                        have h22_6 : R 22 (8 * gn.toInt.toNat + 6) = v6528 := by rw [hw9, show 8 * gn.toInt.toNat + 6 = (v6530 : Int32).toNatClampNeg by show _ = v6530.toInt.toNat; omega]; exact pk_us
                        have hRR := mz_frp (K := [22, 24, 25, 27, 28]) (Fa := Ra) hj9 hRR (by decide)
                        exact mz_vret hx hb hr hlocks ⟨hIF, hIG, hIR, hFF, hRR, hGG, (by rw [hf6517, hf6519]; omega), (by rw [hf6519]; omega), (by rw [hf6517, hf6519, hf6521]; omega), (by rw [hf6517, hf6519, hf6521, hf6523]; omega), (by rw [hf6517]; omega), (by rw [hf6527]; omega), (by rw [hf6517, hf6527]; omega), (by rw [hf6525]; omega), (by rw [hf6517, hf6525]; omega), (by rw [hf6525, hf6527, hf6393]; exact fun h9 => mz_snoc (N := gn.toInt.toNat) (hC h9) (by omega) (by omega) hL22 (by decide) (by omega) (by intro d hd; simp only [List.mem_cons, List.not_mem_nil, or_false] at hd; rcases hd with rfl | rfl <;> first | (rw [show 8 * gn.toInt.toNat + 3 + 1 = 8 * gn.toInt.toNat + 4 from rfl, h22_3, h22_4]; exact ⟨hX6473 h9, by omega⟩) | (rw [show 8 * gn.toInt.toNat + 5 + 1 = 8 * gn.toInt.toNat + 6 from rfl, h22_5, h22_6]; exact ⟨hX6529 h9, by omega⟩)))⟩ hM hS dX13_readLaw_198
                · have hc6389 : ¬ (8 ≤ v5683.toInt) := fun h9 => c9 ((fi_le (show (8 : Int32).toInt = 8 by decide) rfl).mpr h9)
                  refine lv_aload_n hx hb dX13_readLaw_81 rfl (lv_at hl 3 rfl) ?_
                  refine mz_getR hx hb htl hown hK hM 22 (Nat.le_of_ble_eq_true rfl) (Nat.le_of_ble_eq_true rfl) (htl _ mw_197) (fun _ h9 => h9) dX13_readLaw_82 ?_
                  refine lv_iload_n hx hb dX13_readLaw_85 rfl (lv_at hl 1 rfl) ?_
                  refine lv_iload_n hx hb dX13_readLaw_86 rfl (lv_at hl 0 rfl) ?_
                  refine lv_iadd hx hb dX13_readLaw_87 ?_
                  refine tk_add rfl rfl (by omega) (by omega) (fun v6532 h_v6532 => ?_)
                  refine lv_iconst (v := 0) hx hb dX13_readLaw_88 (by decide) ?_
                  have hk_0 : (0 : Int32).toInt = 0 := by decide
                  refine mz_iast (x := 0) hx hb hK hD hM hS 22 (Nat.le_of_ble_eq_true rfl) rfl (nn := 96) rfl rfl (by omega) (by omega) dX13_readLaw_89 (fun H locs R hM hS hw9 hj9 => ?_)
                  have hIR := hIR.put hw9 hj9 trivial
                  have hL22 : low (8 * gn.toInt.toNat) (Ra 22) (R 22) := fun j hj => by rw [hw9, pk_un (fun h9 => by have h8 := tk_nat (i := v6532) rfl (by omega); omega)]; exact hL22 j hj
                  have hC9 := hC
                  have hC : v5679.toInt = 0 → CLS 8 [3, 5] (R 24) (R 25) (Ra 22) gc.toInt gn.toInt := fun h9 => (hC9 (by omega)).to (hj9 24 (by decide)) (hj9 25 (by decide))
                  have hRR := mz_frp (K := [22, 24, 25, 27, 28]) (Fa := Ra) hj9 hRR (by decide)
                  obtain ⟨v6534, h_v6534, e_v6534⟩ := tk_inc v5683 1 (by decide) (by omega) (by omega)
                  refine lv_iinc (v := v6534) (lv' := [(3, .int v6534), (2, .int v5682), (1, .int v1070), (0, .ref am)]) hx hb dX13_readLaw_90 hl (k := 0) rfl e_v6534 (by decide) rfl (fun ls hl => ?_)
                  refine lv_goto (tgt := 75) hx hb dX13_readLaw_93 (by decide) ?_
                  exact ih_l6388 v6534 _ _ _ (by omega) (by omega) hM hS hIR hRR hL22 hC (by omega) _ (lv_sub hl [0, 1, 2, 3] rfl)
            have hk_0 : (0 : Int32).toInt = 0 := by decide
            exact hl6388 9 0 _ _ _ (by omega) (by omega) hM hS hIR hRR hL22 hC (by omega) _ (lv_sub hl [0, 1, 2, 3] rfl)
      · have hc5614 : ¬ (4 ≤ v1069.toInt) := fun h9 => c9 ((fi_le (show (4 : Int32).toInt = 4 by decide) rfl).mpr h9)
        refine lv_aload_n hx hb dX13_readLaw_9 rfl (lv_at hl 2 rfl) ?_
        refine lv_aload_n hx hb dX13_readLaw_10 rfl (lv_at hl 2 rfl) ?_
        refine mz_getR hx hb htl hown hK hM 33 (Nat.le_of_ble_eq_true rfl) (Nat.le_of_ble_eq_true rfl) (htl _ mw_222) (fun _ h9 => h9) dX13_readLaw_11 ?_
        refine lv_iload_n hx hb dX13_readLaw_14 rfl (lv_at hl 0 rfl) ?_
        refine mz_lald hx hb hK hM 33 (Nat.le_of_ble_eq_true rfl) rfl (nn := 4) rfl rfl (by omega) (by omega) dX13_readLaw_15 (fun w6535 _ => ?_)
        refine mz_Vj (As := [.long w6535]) (rest := []) ⟨hx, hb, hml, hown, hts⟩ hK hM hS (k_X13_isWord l D cy ld ad am hD _ _ _ _ w6535 gs gw hIF hIG hIR hg_2 hg_4) ⟨callB_of 1 hts (wl_in mw_709) rfl rfl rfl (htl _ mw_5) (htl _ mw_706) hd_yX13_isWord ⟨(Nat.le_of_ble_eq_true rfl), (Nat.le_of_ble_eq_true rfl)⟩, htl _ mw_707, htl _ mw_708⟩ rfl hl.1 rfl (Nat.le_of_ble_eq_true rfl) dX13_readLaw_16 ⟨(Nat.le_of_ble_eq_true rfl), (Nat.le_of_ble_eq_true rfl)⟩ (fun v6536 H locs hpo hM hS => ?_)
        obtain ⟨hpo6537, hpo6538, hpo6539, hpo6540, hpo6541⟩ := hpo
        have hq_v6536 := tk_rng v6536
        refine lv_if_eq (tgt := 26) hx hb dX13_readLaw_19 (by decide) (fun c9 => ?_) (fun c9 => ?_)
        · have hc6543 : v6536.toInt = 0 := (fi_eq rfl (show (0 : Int32).toInt = 0 by decide)).mp c9
          refine lv_iload_n hx hb dX13_readLaw_26 rfl (lv_at hl 1 rfl) ?_
          refine lv_istore_n (lv' := [(1, .int v1070), (2, .int v1069), (0, .ref am)]) hx hb dX13_readLaw_27 rfl hl (by decide) rfl (fun ls hl => ?_)
          obtain ⟨v6544, h_v6544, e_v6544⟩ := tk_inc v1069 1 (by decide) (by omega) (by omega)
          refine lv_iinc (v := v6544) (lv' := [(2, .int v6544), (1, .int v1070), (0, .ref am)]) hx hb dX13_readLaw_28 hl (k := 1) rfl e_v6544 (by decide) rfl (fun ls hl => ?_)
          refine lv_goto (tgt := 4) hx hb dX13_readLaw_31 (by decide) ?_
          exact ih_l5613 v6544 v1070 _ _ (by omega) (by omega) (by omega) hM hS (by omega) (by omega) _ (lv_sub hl [0, 1, 2] rfl)
        · have hc6543 : ¬ (v6536.toInt = 0) := fun h9 => c9 ((fi_eq rfl (show (0 : Int32).toInt = 0 by decide)).mpr h9)
          have hwk_6545 : gw.toInt + (-1) * w6535.toInt = 0 ∧ gs.toInt + (-1) = 0 := by omega
          have hwk_6546 : 0 ≤ (-1) * gf.toInt + gt.toInt + (-1) := by omega
          refine lv_iload_n hx hb dX13_readLaw_22 rfl (lv_at hl 0 rfl) ?_
          refine lv_goto (tgt := 27) hx hb dX13_readLaw_23 (by decide) ?_
          refine lv_istore_n (lv' := [(1, .int v1069), (2, .int v1069), (0, .ref am)]) hx hb dX13_readLaw_27 rfl hl (by decide) rfl (fun ls hl => ?_)
          obtain ⟨v6547, h_v6547, e_v6547⟩ := tk_inc v1069 1 (by decide) (by omega) (by omega)
          refine lv_iinc (v := v6547) (lv' := [(2, .int v6547), (1, .int v1069), (0, .ref am)]) hx hb dX13_readLaw_28 hl (k := 1) rfl e_v6547 (by decide) rfl (fun ls hl => ?_)
          refine lv_goto (tgt := 4) hx hb dX13_readLaw_31 (by decide) ?_
          exact ih_l5613 v6547 v1069 _ _ (by omega) (by omega) (by omega) hM hS (by omega) (by omega) _ (lv_sub hl [0, 1, 2] rfl)
  have hk_0 : (0 : Int32).toInt = 0 := by decide
  have hk_m1 : ((-1) : Int32).toInt = (-1) := by decide
  exact hl5613 5 0 (-1) _ _ (by omega) (by omega) (by omega) hM hS (by omega) (by omega) _ (lv_sub hl [0, 1, 2] rfl)
