theorem hd_yX13_readExpression : yX13_readExpression.cls ≠ "java/lang/invoke/MethodHandle" ∧ yX13_readExpression.cls ≠ "java/lang/invoke/VarHandle" ∧ (parseMethodDescriptor yX13_readExpression.desc).map (fun d => d.parameters.length) = some 1 := by decide +kernel
theorem dX13_readLaw_0 : decode cX13_readLaw 0 = .ok (.iconst (-1), 1) := by decide +kernel
theorem dX13_readLaw_1 : decode cX13_readLaw 1 = .ok (.istore_n 1, 1) := by decide +kernel
theorem dX13_readLaw_2 : decode cX13_readLaw 2 = .ok (.iconst 0, 1) := by decide +kernel
theorem dX13_readLaw_3 : decode cX13_readLaw 3 = .ok (.istore_n 2, 1) := by decide +kernel
theorem dX13_readLaw_4 : decode cX13_readLaw 4 = .ok (.iload_n 2, 1) := by decide +kernel
theorem dX13_readLaw_5 : decode cX13_readLaw 5 = .ok (.iconst 4, 1) := by decide +kernel
theorem dX13_readLaw_6 : decode cX13_readLaw 6 = .ok (.if_icmp .ge 28, 3) := by decide +kernel
theorem dX13_readLaw_34 : decode cX13_readLaw 34 = .ok (.aload_n 0, 1) := by decide +kernel
theorem dX13_readLaw_35 : decode cX13_readLaw 35 = .ok (.iload_n 1, 1) := by decide +kernel
theorem dX13_readLaw_36 : decode cX13_readLaw 36 = .ok (.iconst (-1), 1) := by decide +kernel
theorem dX13_readLaw_37 : decode cX13_readLaw 37 = .ok (.if_icmp .eq 16, 3) := by decide +kernel
theorem dX13_readLaw_53 : decode cX13_readLaw 53 = .ok (.iconst 0, 1) := by decide +kernel
theorem dX13_readLaw_54 : decode cX13_readLaw 54 = .ok (.invokevirtual 271, 3) := by decide +kernel
theorem dX13_readLaw_57 : decode cX13_readLaw 57 = .ok (.aload_n 0, 1) := by decide +kernel
theorem dX13_readLaw_58 : decode cX13_readLaw 58 = .ok (.getfield 236, 3) := by decide +kernel
theorem dX13_readLaw_61 : decode cX13_readLaw 61 = .ok (.ifCond .eq 4, 3) := by decide +kernel
theorem dX13_readLaw_64 : decode cX13_readLaw 64 = .ok (.return_, 1) := by decide +kernel
theorem dX13_readLaw_40 : decode cX13_readLaw 40 = .ok (.aload_n 0, 1) := by decide +kernel
theorem dX13_readLaw_41 : decode cX13_readLaw 41 = .ok (.getfield 369, 3) := by decide +kernel
theorem dX13_readLaw_44 : decode cX13_readLaw 44 = .ok (.bipush 12, 2) := by decide +kernel
theorem dX13_readLaw_46 : decode cX13_readLaw 46 = .ok (.if_icmp .ge 7, 3) := by decide +kernel
theorem dX13_readLaw_49 : decode cX13_readLaw 49 = .ok (.iconst 1, 1) := by decide +kernel
theorem dX13_readLaw_50 : decode cX13_readLaw 50 = .ok (.goto 4, 3) := by decide +kernel
theorem dX13_readLaw_65 : decode cX13_readLaw 65 = .ok (.bipush 8, 2) := by decide +kernel
theorem dX13_readLaw_67 : decode cX13_readLaw 67 = .ok (.aload_n 0, 1) := by decide +kernel
theorem dX13_readLaw_68 : decode cX13_readLaw 68 = .ok (.getfield 369, 3) := by decide +kernel
theorem dX13_readLaw_71 : decode cX13_readLaw 71 = .ok (.imul, 1) := by decide +kernel
theorem dX13_readLaw_72 : decode cX13_readLaw 72 = .ok (.istore_n 2, 1) := by decide +kernel
theorem dX13_readLaw_73 : decode cX13_readLaw 73 = .ok (.iconst 0, 1) := by decide +kernel
theorem dX13_readLaw_74 : decode cX13_readLaw 74 = .ok (.istore_n 3, 1) := by decide +kernel
theorem dX13_readLaw_75 : decode cX13_readLaw 75 = .ok (.iload_n 3, 1) := by decide +kernel
theorem dX13_readLaw_76 : decode cX13_readLaw 76 = .ok (.bipush 8, 2) := by decide +kernel
theorem dX13_readLaw_78 : decode cX13_readLaw 78 = .ok (.if_icmp .ge 18, 3) := by decide +kernel
theorem dX13_readLaw_96 : decode cX13_readLaw 96 = .ok (.aload_n 0, 1) := by decide +kernel
theorem dX13_readLaw_97 : decode cX13_readLaw 97 = .ok (.getfield 42, 3) := by decide +kernel
theorem dX13_readLaw_100 : decode cX13_readLaw 100 = .ok (.iload_n 2, 1) := by decide +kernel
theorem dX13_readLaw_101 : decode cX13_readLaw 101 = .ok (.iload_n 1, 1) := by decide +kernel
theorem dX13_readLaw_102 : decode cX13_readLaw 102 = .ok (.iastore, 1) := by decide +kernel
theorem dX13_readLaw_103 : decode cX13_readLaw 103 = .ok (.aload_n 0, 1) := by decide +kernel
theorem dX13_readLaw_104 : decode cX13_readLaw 104 = .ok (.dup, 1) := by decide +kernel
theorem dX13_readLaw_105 : decode cX13_readLaw 105 = .ok (.getfield 369, 3) := by decide +kernel
theorem dX13_readLaw_108 : decode cX13_readLaw 108 = .ok (.iconst 1, 1) := by decide +kernel
theorem dX13_readLaw_109 : decode cX13_readLaw 109 = .ok (.iadd, 1) := by decide +kernel
theorem dX13_readLaw_110 : decode cX13_readLaw 110 = .ok (.putfield 369, 3) := by decide +kernel
theorem dX13_readLaw_113 : decode cX13_readLaw 113 = .ok (.aload_n 0, 1) := by decide +kernel
theorem dX13_readLaw_114 : decode cX13_readLaw 114 = .ok (.getfield 42, 3) := by decide +kernel
theorem dX13_readLaw_117 : decode cX13_readLaw 117 = .ok (.iload_n 2, 1) := by decide +kernel
theorem dX13_readLaw_118 : decode cX13_readLaw 118 = .ok (.iconst 3, 1) := by decide +kernel
theorem dX13_readLaw_119 : decode cX13_readLaw 119 = .ok (.iadd, 1) := by decide +kernel
theorem dX13_readLaw_120 : decode cX13_readLaw 120 = .ok (.aload_n 0, 1) := by decide +kernel
theorem dX13_readLaw_121 : decode cX13_readLaw 121 = .ok (.getfield 275, 3) := by decide +kernel
theorem dX13_readLaw_124 : decode cX13_readLaw 124 = .ok (.iastore, 1) := by decide +kernel
theorem dX13_readLaw_125 : decode cX13_readLaw 125 = .ok (.iload_n 1, 1) := by decide +kernel
theorem dX13_readLaw_126 : decode cX13_readLaw 126 = .ok (.iconst 3, 1) := by decide +kernel
theorem dX13_readLaw_127 : decode cX13_readLaw 127 = .ok (.if_icmp .eq 8, 3) := by decide +kernel
theorem dX13_readLaw_135 : decode cX13_readLaw 135 = .ok (.aload_n 0, 1) := by decide +kernel
theorem dX13_readLaw_136 : decode cX13_readLaw 136 = .ok (.getfield 42, 3) := by decide +kernel
theorem dX13_readLaw_139 : decode cX13_readLaw 139 = .ok (.iload_n 2, 1) := by decide +kernel
theorem dX13_readLaw_140 : decode cX13_readLaw 140 = .ok (.iconst 4, 1) := by decide +kernel
theorem dX13_readLaw_141 : decode cX13_readLaw 141 = .ok (.iadd, 1) := by decide +kernel
theorem dX13_readLaw_142 : decode cX13_readLaw 142 = .ok (.aload_n 0, 1) := by decide +kernel
theorem dX13_readLaw_143 : decode cX13_readLaw 143 = .ok (.getfield 275, 3) := by decide +kernel
theorem dX13_readLaw_146 : decode cX13_readLaw 146 = .ok (.iastore, 1) := by decide +kernel
theorem dX13_readLaw_147 : decode cX13_readLaw 147 = .ok (.aload_n 0, 1) := by decide +kernel
theorem dX13_readLaw_148 : decode cX13_readLaw 148 = .ok (.getfield 42, 3) := by decide +kernel
theorem dX13_readLaw_151 : decode cX13_readLaw 151 = .ok (.iload_n 2, 1) := by decide +kernel
theorem dX13_readLaw_152 : decode cX13_readLaw 152 = .ok (.iconst 5, 1) := by decide +kernel
theorem dX13_readLaw_153 : decode cX13_readLaw 153 = .ok (.iadd, 1) := by decide +kernel
theorem dX13_readLaw_154 : decode cX13_readLaw 154 = .ok (.aload_n 0, 1) := by decide +kernel
theorem dX13_readLaw_155 : decode cX13_readLaw 155 = .ok (.getfield 275, 3) := by decide +kernel
theorem dX13_readLaw_158 : decode cX13_readLaw 158 = .ok (.iastore, 1) := by decide +kernel
theorem dX13_readLaw_159 : decode cX13_readLaw 159 = .ok (.aload_n 0, 1) := by decide +kernel
theorem dX13_readLaw_160 : decode cX13_readLaw 160 = .ok (.getfield 236, 3) := by decide +kernel
theorem dX13_readLaw_163 : decode cX13_readLaw 163 = .ok (.ifCond .ne 22, 3) := by decide +kernel
theorem dX13_readLaw_166 : decode cX13_readLaw 166 = .ok (.aload_n 0, 1) := by decide +kernel
theorem dX13_readLaw_167 : decode cX13_readLaw 167 = .ok (.ldc2_w 375, 3) := by decide +kernel
theorem dX13_readLaw_170 : decode cX13_readLaw 170 = .ok (.invokevirtual 296, 3) := by decide +kernel
theorem dX13_readLaw_173 : decode cX13_readLaw 173 = .ok (.ifCond .eq 12, 3) := by decide +kernel
theorem dX13_readLaw_185 : decode cX13_readLaw 185 = .ok (.aload_n 0, 1) := by decide +kernel
theorem dX13_readLaw_186 : decode cX13_readLaw 186 = .ok (.getfield 42, 3) := by decide +kernel
theorem dX13_readLaw_189 : decode cX13_readLaw 189 = .ok (.iload_n 2, 1) := by decide +kernel
theorem dX13_readLaw_190 : decode cX13_readLaw 190 = .ok (.bipush 6, 2) := by decide +kernel
theorem dX13_readLaw_192 : decode cX13_readLaw 192 = .ok (.iadd, 1) := by decide +kernel
theorem dX13_readLaw_193 : decode cX13_readLaw 193 = .ok (.aload_n 0, 1) := by decide +kernel
theorem dX13_readLaw_194 : decode cX13_readLaw 194 = .ok (.getfield 275, 3) := by decide +kernel
theorem dX13_readLaw_197 : decode cX13_readLaw 197 = .ok (.iastore, 1) := by decide +kernel
theorem dX13_readLaw_198 : decode cX13_readLaw 198 = .ok (.return_, 1) := by decide +kernel
theorem dX13_readLaw_176 : decode cX13_readLaw 176 = .ok (.aload_n 0, 1) := by decide +kernel
theorem dX13_readLaw_177 : decode cX13_readLaw 177 = .ok (.invokevirtual 240, 3) := by decide +kernel
theorem dX13_readLaw_180 : decode cX13_readLaw 180 = .ok (.aload_n 0, 1) := by decide +kernel
theorem dX13_readLaw_181 : decode cX13_readLaw 181 = .ok (.iconst 1, 1) := by decide +kernel
theorem dX13_readLaw_182 : decode cX13_readLaw 182 = .ok (.invokevirtual 372, 3) := by decide +kernel
theorem dX13_readLaw_130 : decode cX13_readLaw 130 = .ok (.aload_n 0, 1) := by decide +kernel
theorem dX13_readLaw_131 : decode cX13_readLaw 131 = .ok (.iconst 0, 1) := by decide +kernel
theorem dX13_readLaw_132 : decode cX13_readLaw 132 = .ok (.invokevirtual 372, 3) := by decide +kernel
theorem dX13_readLaw_81 : decode cX13_readLaw 81 = .ok (.aload_n 0, 1) := by decide +kernel
theorem dX13_readLaw_82 : decode cX13_readLaw 82 = .ok (.getfield 42, 3) := by decide +kernel
theorem dX13_readLaw_85 : decode cX13_readLaw 85 = .ok (.iload_n 2, 1) := by decide +kernel
theorem dX13_readLaw_86 : decode cX13_readLaw 86 = .ok (.iload_n 3, 1) := by decide +kernel
theorem dX13_readLaw_87 : decode cX13_readLaw 87 = .ok (.iadd, 1) := by decide +kernel
theorem dX13_readLaw_88 : decode cX13_readLaw 88 = .ok (.iconst 0, 1) := by decide +kernel
theorem dX13_readLaw_89 : decode cX13_readLaw 89 = .ok (.iastore, 1) := by decide +kernel
theorem dX13_readLaw_90 : decode cX13_readLaw 90 = .ok (.iinc 3 1, 3) := by decide +kernel
theorem dX13_readLaw_93 : decode cX13_readLaw 93 = .ok (.goto (-18), 3) := by decide +kernel
theorem dX13_readLaw_9 : decode cX13_readLaw 9 = .ok (.aload_n 0, 1) := by decide +kernel
theorem dX13_readLaw_10 : decode cX13_readLaw 10 = .ok (.aload_n 0, 1) := by decide +kernel
theorem dX13_readLaw_11 : decode cX13_readLaw 11 = .ok (.getfield 98, 3) := by decide +kernel
theorem dX13_readLaw_14 : decode cX13_readLaw 14 = .ok (.iload_n 2, 1) := by decide +kernel
theorem dX13_readLaw_15 : decode cX13_readLaw 15 = .ok (.laload, 1) := by decide +kernel
theorem dX13_readLaw_16 : decode cX13_readLaw 16 = .ok (.invokevirtual 296, 3) := by decide +kernel
theorem dX13_readLaw_19 : decode cX13_readLaw 19 = .ok (.ifCond .eq 7, 3) := by decide +kernel
theorem dX13_readLaw_26 : decode cX13_readLaw 26 = .ok (.iload_n 1, 1) := by decide +kernel
theorem dX13_readLaw_27 : decode cX13_readLaw 27 = .ok (.istore_n 1, 1) := by decide +kernel
theorem dX13_readLaw_28 : decode cX13_readLaw 28 = .ok (.iinc 2 1, 3) := by decide +kernel
theorem dX13_readLaw_31 : decode cX13_readLaw 31 = .ok (.goto (-27), 3) := by decide +kernel
theorem dX13_readLaw_22 : decode cX13_readLaw 22 = .ok (.iload_n 2, 1) := by decide +kernel
theorem dX13_readLaw_23 : decode cX13_readLaw 23 = .ok (.goto 4, 3) := by decide +kernel
set_option maxHeartbeats 4000000 in
set_option maxRecDepth 100000 in
theorem k_X13_readLaw (l : Launch) (D : va_G) (cy : Nat → ClassId) (ld ad : Nat → Nat) (am : Nat) (hD : mz_D ad am) (Fa : Nat → Int32) (Ga : Nat → Int64) (Ra : Nat → Nat → Int32) (Sa : Nat → Nat → Int64) (gf : Int32) (gt : Int32) (gs : Int32) (gp : Int32) (gw : Int64) (gb : Int32) (gc : Int32) (gn : Int32) (hIF : mz_IF false Fa) (hIG : mz_IG Ga) (hIR : mz_IR [] true Ra) (hg_0 : Fa 14 = gf) (hg_1 : Fa 15 = gt) (hg_2 : Fa 16 = gs) (hg_3 : Fa 13 = gp) (hg_4 : Ga 17 = gw) (hg_5 : Fa 19 = gb) (hg_6 : Fa 23 = gc) (hg_7 : Fa 21 = gn) (hp_0 : 0 ≤ (-1) * gf.toInt + gt.toInt) (hp_1 : 0 ≤ gp.toInt + (-1) * gt.toInt) (hp_2 : (1 ≤ gs.toInt → 0 ≤ (-1) * gf.toInt + gt.toInt + (-1))) (hp_3 : (27 ≤ gw.toInt → 1 ≤ gs.toInt → gs.toInt ≤ 1 → 0 ≤ (-1) * gf.toInt + gt.toInt + (-2))) (hp_4 : 0 ≤ (-1) * gc.toInt + gf.toInt) (hp_5 : gb.toInt ≤ 0) (hx_0 : CLS 8 [3, 5] (Ra 24) (Ra 25) (Ra 22) gc.toInt gn.toInt) : Met l yX13_readLaw (wl yX13_readLaw cX13_readLaw 4 none) ({ frames := 10, cells := 0, slots := 0, locals := 630 }) (mz_p D cy ld ad am Fa Ga Ra Sa [.ref am]) (mz_w D cy ad am (fun F G R S => mz_IF false F ∧ mz_IG G ∧ mz_IR [] true R ∧ (∀ k : Nat, k ∉ ([14, 15, 16, 18, 19, 21, 23, 26, 29, 30] : List Nat) → F k = Fa k) ∧ (∀ k : Nat, k ∉ ([22, 24, 25, 27, 28] : List Nat) → R k = Ra k) ∧ (∀ k : Nat, k ∉ ([17] : List Nat) → G k = Ga k) ∧ 0 ≤ (-1) * (F 14).toInt + (F 15).toInt ∧ 0 ≤ gp.toInt + (-1) * (F 15).toInt ∧ (1 ≤ (F 16).toInt → 0 ≤ (-1) * (F 14).toInt + (F 15).toInt + (-1)) ∧ (27 ≤ (G 17).toInt → 1 ≤ (F 16).toInt → (F 16).toInt ≤ 1 → 0 ≤ (-1) * (F 14).toInt + (F 15).toInt + (-2)) ∧ 0 ≤ (-1) * gf.toInt + (F 14).toInt ∧ 0 ≤ (-1) * gc.toInt + (F 23).toInt ∧ 0 ≤ (-1) * (F 23).toInt + (F 14).toInt ∧ 0 ≤ (-1) * gb.toInt + (F 19).toInt ∧ ((F 19).toInt ≤ 0 → 0 ≤ (-1) * gf.toInt + (F 14).toInt + (-1)) ∧ ((F 19).toInt = 0 → CLS 8 [3, 5] (R 24) (R 25) (R 22) (F 23).toInt (F 21).toInt))) 0 0 (mz_W ad am) := by
  refine mz_met (y := yX13_readLaw) (cc := cX13_readLaw) (maxL := 4) (ret := none) (av := [.ref am]) _ (by decide) (Nat.le_of_ble_eq_true rfl) ?_
  intro p e s m args below meth c hx hb hr hml hts htl hown hlocks hK H locs hM hS ls hl
  have hown : s.vm.findClass RX13 = some m.cls := hown
  have hl : lv_has ls 4 [(0, .ref am)] := hl
  have hq_gf := tk_rng gf
  have hq_gt := tk_rng gt
  have hq_gs := tk_rng gs
  have hq_gp := tk_rng gp
  have hq_gw := tk_rngL gw
  have hq_gb := tk_rng gb
  have hq_gc := tk_rng gc
  have hq_gn := tk_rng gn
  have hr_gf : 0 ≤ gf.toInt ∧ gf.toInt ≤ 400 := hIF.at hg_0
  have hr_gt : 0 ≤ gt.toInt ∧ gt.toInt ≤ 400 := hIF.at hg_1
  have hr_gs : 0 ≤ gs.toInt ∧ gs.toInt ≤ 3 := hIF.at hg_2
  have hr_gp : 0 ≤ gp.toInt ∧ gp.toInt ≤ 400 := hIF.at hg_3
  have hr_gb : 0 ≤ gb.toInt ∧ gb.toInt ≤ 1 := hIF.at hg_5
  have hr_gc : 0 ≤ gc.toInt ∧ gc.toInt ≤ 400 := hIF.at hg_6
  have hr_gn : 0 ≤ gn.toInt ∧ gn.toInt ≤ 12 := hIF.at hg_7
  have hL22 := low.refl (8 * gn.toInt.toNat) (Ra 22)
  have hC : gb.toInt = 0 → CLS 8 [3, 5] (Ra 24) (Ra 25) (Ra 22) gc.toInt gn.toInt := fun _ => hx_0
  refine lv_iconst (v := (-1)) hx hb dX13_readLaw_0 (by decide) ?_
  refine lv_istore_n (lv' := [(1, .int (-1)), (0, .ref am)]) hx hb dX13_readLaw_1 rfl hl (by decide) rfl (fun ls hl => ?_)
  refine lv_iconst (v := 0) hx hb dX13_readLaw_2 (by decide) ?_
  refine lv_istore_n (lv' := [(2, .int 0), (1, .int (-1)), (0, .ref am)]) hx hb dX13_readLaw_3 rfl hl (by decide) rfl (fun ls hl => ?_)
  have hl5610 : ∀ (N_l5610 : Nat) (v1066 : Int32) (v1067 : Int32) (H : Heap) (locs : List Loc), (v1066.toInt ≤ 4) → (0 ≤ v1066.toInt + (-1) * v1067.toInt + (-1)) → ((-1) ≤ v1067.toInt) → (mz_S D cy ad am Fa Ga Ra Sa H) → (va_S (mz_W ad am) s.heap H locs) → ((0 ≤ v1067.toInt → gs.toInt + (-1) = 0)) → ((-1) * v1066.toInt + 4 < (N_l5610 : Int)) → ∀ ls : Array Slot, lv_has ls 4 [(2, .int v1066), (1, .int v1067), (0, .ref am)] → W p l e ({ frames := 10, cells := 0, slots := 0, locals := 630 }) s m args below meth c H locs 0 0 (MQ below (mz_w D cy ad am (fun F G R S => mz_IF false F ∧ mz_IG G ∧ mz_IR [] true R ∧ (∀ k : Nat, k ∉ ([14, 15, 16, 18, 19, 21, 23, 26, 29, 30] : List Nat) → F k = Fa k) ∧ (∀ k : Nat, k ∉ ([22, 24, 25, 27, 28] : List Nat) → R k = Ra k) ∧ (∀ k : Nat, k ∉ ([17] : List Nat) → G k = Ga k) ∧ 0 ≤ (-1) * (F 14).toInt + (F 15).toInt ∧ 0 ≤ gp.toInt + (-1) * (F 15).toInt ∧ (1 ≤ (F 16).toInt → 0 ≤ (-1) * (F 14).toInt + (F 15).toInt + (-1)) ∧ (27 ≤ (G 17).toInt → 1 ≤ (F 16).toInt → (F 16).toInt ≤ 1 → 0 ≤ (-1) * (F 14).toInt + (F 15).toInt + (-2)) ∧ 0 ≤ (-1) * gf.toInt + (F 14).toInt ∧ 0 ≤ (-1) * gc.toInt + (F 23).toInt ∧ 0 ≤ (-1) * (F 23).toInt + (F 14).toInt ∧ 0 ≤ (-1) * gb.toInt + (F 19).toInt ∧ ((F 19).toInt ≤ 0 → 0 ≤ (-1) * gf.toInt + (F 14).toInt + (-1)) ∧ ((F 19).toInt = 0 → CLS 8 [3, 5] (R 24) (R 25) (R 22) (F 23).toInt (F 21).toInt))) args s 0 0 (mz_W ad am)) (F0 m 4 ls []) := by
    intro N_l5610
    induction N_l5610 with
    | zero => intro v1066 v1067 H locs hq0_l5610 hq1_l5610 hq2_l5610 hM hS hc0_l5610 hm_l5610 ls hl; exfalso; omega
    | succ N_l5610 ih_l5610 =>
      intro v1066 v1067 H locs hq0_l5610 hq1_l5610 hq2_l5610 hM hS hc0_l5610 hm_l5610 ls hl
      refine lv_iload_n hx hb dX13_readLaw_4 rfl (lv_at hl 0 rfl) ?_
      refine lv_iconst (v := 4) hx hb dX13_readLaw_5 (by decide) ?_
      refine lv_icmp_ge (tgt := 34) hx hb dX13_readLaw_6 (by decide) (fun c9 => ?_) (fun c9 => ?_)
      · have hc5611 : 4 ≤ v1066.toInt := (fi_le (show (4 : Int32).toInt = 4 by decide) rfl).mp c9
        refine lv_aload_n hx hb dX13_readLaw_34 rfl (lv_at hl 2 rfl) ?_
        refine lv_iload_n hx hb dX13_readLaw_35 rfl (lv_at hl 1 rfl) ?_
        refine lv_iconst (v := (-1)) hx hb dX13_readLaw_36 (by decide) ?_
        refine lv_icmp_eq (tgt := 53) hx hb dX13_readLaw_37 (by decide) (fun c9 => ?_) (fun c9 => ?_)
        · have hc5612 : v1067.toInt = (-1) := (fi_eq rfl (show ((-1) : Int32).toInt = (-1) by decide)).mp c9
          refine lv_iconst (v := 0) hx hb dX13_readLaw_53 (by decide) ?_
          have hk_0 : (0 : Int32).toInt = 0 := by decide
          refine mz_Vv (As := [.int 0]) (rest := []) ⟨hx, hb, hml, hown, hts⟩ hK hM hS (k_X13_must l D cy ld ad am hD _ _ _ _ 0 gf gt gs gp gw gb hIF hIG hIR hg_0 hg_1 hg_2 hg_3 hg_4 hg_5 (by omega) (by omega) (by omega) (by omega) (by omega) (by omega)) ⟨callB_of 1 hts (wl_in mw_713) rfl rfl rfl (htl _ mw_5) (htl _ mw_710) hd_yX13_must ⟨(Nat.le_of_ble_eq_true rfl), (Nat.le_of_ble_eq_true rfl)⟩, htl _ mw_711, htl _ mw_712⟩ rfl hl.1 rfl (Nat.le_of_ble_eq_true rfl) dX13_readLaw_54 ⟨(Nat.le_of_ble_eq_true rfl), (Nat.le_of_ble_eq_true rfl)⟩ (fun H locs F G R S hpo hM hS => ?_)
          obtain ⟨hIF, hIG, hIR, hfr9, hrr9, hgr9, hpo5613, hpo5614, hpo5615, hpo5616, hpo5617, hpo5618, hpo5619, hpo5620⟩ := hpo
          have hFF := mz_fr (K := [14, 15, 16, 18, 19, 21, 23, 26, 29, 30]) (Fa := Fa) hfr9 (fun _ _ => rfl) (by decide)
          have hRR := mz_fr (K := [22, 24, 25, 27, 28]) (Fa := Ra) hrr9 (fun _ _ => rfl) (by decide)
          have hGG := mz_fr (K := [17]) (Fa := Ga) hgr9 (fun _ _ => rfl) (by decide)
          have hg_3 := (hfr9 13 (by decide)).trans hg_3
          have hg_6 := (hfr9 23 (by decide)).trans hg_6
          have hg_7 := (hfr9 21 (by decide)).trans hg_7
          obtain ⟨v5623, hf5622⟩ : ∃ z : Int32, F 14 = z := ⟨_, rfl⟩
          have hq_v5623 := tk_rng v5623
          rw [hf5622] at hpo5613 hpo5615 hpo5616 hpo5617 hpo5619
          have hr_v5623 : 0 ≤ v5623.toInt ∧ v5623.toInt ≤ 400 := hIF.at hf5622
          obtain ⟨v5625, hf5624⟩ : ∃ z : Int32, F 15 = z := ⟨_, rfl⟩
          have hq_v5625 := tk_rng v5625
          rw [hf5624] at hpo5613 hpo5614 hpo5615 hpo5616
          have hr_v5625 : 0 ≤ v5625.toInt ∧ v5625.toInt ≤ 400 := hIF.at hf5624
          obtain ⟨v5627, hf5626⟩ : ∃ z : Int32, F 16 = z := ⟨_, rfl⟩
          have hq_v5627 := tk_rng v5627
          rw [hf5626] at hpo5615 hpo5616
          have hr_v5627 : 0 ≤ v5627.toInt ∧ v5627.toInt ≤ 3 := hIF.at hf5626
          obtain ⟨w5629, hf5628⟩ : ∃ z : Int64, G 17 = z := ⟨_, rfl⟩
          have hq_w5629 := tk_rngL w5629
          rw [hf5628] at hpo5616
          obtain ⟨v5631, hf5630⟩ : ∃ z : Int32, F 19 = z := ⟨_, rfl⟩
          have hq_v5631 := tk_rng v5631
          rw [hf5630] at hpo5618 hpo5619 hpo5620
          have hr_v5631 : 0 ≤ v5631.toInt ∧ v5631.toInt ≤ 1 := hIF.at hf5630
          have hL22 := hL22.to (hrr9 22 (by decide))
          have hC9 := hC
          have hC : v5631.toInt = 0 → CLS 8 [3, 5] (R 24) (R 25) (Ra 22) gc.toInt gn.toInt := fun h9 => (hC9 (by omega)).to (hrr9 24 (by decide)) (hrr9 25 (by decide))
          refine lv_aload_n hx hb dX13_readLaw_57 rfl (lv_at hl 2 rfl) ?_
          refine mz_getI hx hb htl hown hK hM 19 (Nat.le_of_ble_eq_true rfl) rfl (htl _ mw_668) (fun _ h9 => h9) dX13_readLaw_58 (fun v9 e9 => ?_)
          refine fx_ti (v := v5631) (e9.symm.trans hf5630) ?_
          refine lv_if_eq (tgt := 65) hx hb dX13_readLaw_61 (by decide) (fun c9 => ?_) (fun c9 => ?_)
          · have hc5632 : v5631.toInt = 0 := (fi_eq rfl (show (0 : Int32).toInt = 0 by decide)).mp c9
            have hwk_5633 : 0 ≤ (-1) * gt.toInt + v5623.toInt ∧ 0 ≤ (-1) := by omega
            exfalso
            omega
          · have hc5632 : ¬ (v5631.toInt = 0) := fun h9 => c9 ((fi_eq rfl (show (0 : Int32).toInt = 0 by decide)).mpr h9)
            exact mz_vret hx hb hr hlocks ⟨hIF, hIG, hIR, hFF, hRR, hGG, (by rw [hf5622, hf5624]; omega), (by rw [hf5624]; omega), (by rw [hf5622, hf5624, hf5626]; omega), (by rw [hf5622, hf5624, hf5626, hf5628]; omega), (by rw [hf5622]; omega), (by rw [hg_6]; omega), (by rw [hf5622, hg_6]; omega), (by rw [hf5630]; omega), (by rw [hf5622, hf5630]; omega), (by rw [hf5630]; exact fun h9 => absurd h9 (by omega))⟩ hM hS dX13_readLaw_64
        · have hc5612 : ¬ (v1067.toInt = (-1)) := fun h9 => c9 ((fi_eq rfl (show ((-1) : Int32).toInt = (-1) by decide)).mpr h9)
          have hwk_5634 : gs.toInt + (-1) = 0 := by omega
          have hwk_5635 : 0 ≤ (-1) * gf.toInt + gt.toInt + (-1) := by omega
          refine lv_aload_n hx hb dX13_readLaw_40 rfl (lv_at hl 2 rfl) ?_
          refine mz_getI hx hb htl hown hK hM 21 (Nat.le_of_ble_eq_true rfl) rfl (htl _ mw_669) (fun _ h9 => h9) dX13_readLaw_41 (fun v9 e9 => ?_)
          refine fx_ti (v := gn) (e9.symm.trans hg_7) ?_
          refine lv_bipush (v := 12) hx hb dX13_readLaw_44 (by decide) ?_
          refine lv_icmp_ge (tgt := 53) hx hb dX13_readLaw_46 (by decide) (fun c9 => ?_) (fun c9 => ?_)
          · have hc5636 : 12 ≤ gn.toInt := (fi_le (show (12 : Int32).toInt = 12 by decide) rfl).mp c9
            refine lv_iconst (v := 0) hx hb dX13_readLaw_53 (by decide) ?_
            have hk_0 : (0 : Int32).toInt = 0 := by decide
            refine mz_Vv (As := [.int 0]) (rest := []) ⟨hx, hb, hml, hown, hts⟩ hK hM hS (k_X13_must l D cy ld ad am hD _ _ _ _ 0 gf gt gs gp gw gb hIF hIG hIR hg_0 hg_1 hg_2 hg_3 hg_4 hg_5 (by omega) (by omega) (by omega) (by omega) (by omega) (by omega)) ⟨callB_of 1 hts (wl_in mw_713) rfl rfl rfl (htl _ mw_5) (htl _ mw_710) hd_yX13_must ⟨(Nat.le_of_ble_eq_true rfl), (Nat.le_of_ble_eq_true rfl)⟩, htl _ mw_711, htl _ mw_712⟩ rfl hl.1 rfl (Nat.le_of_ble_eq_true rfl) dX13_readLaw_54 ⟨(Nat.le_of_ble_eq_true rfl), (Nat.le_of_ble_eq_true rfl)⟩ (fun H locs F G R S hpo hM hS => ?_)
            obtain ⟨hIF, hIG, hIR, hfr9, hrr9, hgr9, hpo5637, hpo5638, hpo5639, hpo5640, hpo5641, hpo5642, hpo5643, hpo5644⟩ := hpo
            have hFF := mz_fr (K := [14, 15, 16, 18, 19, 21, 23, 26, 29, 30]) (Fa := Fa) hfr9 (fun _ _ => rfl) (by decide)
            have hRR := mz_fr (K := [22, 24, 25, 27, 28]) (Fa := Ra) hrr9 (fun _ _ => rfl) (by decide)
            have hGG := mz_fr (K := [17]) (Fa := Ga) hgr9 (fun _ _ => rfl) (by decide)
            have hg_3 := (hfr9 13 (by decide)).trans hg_3
            have hg_6 := (hfr9 23 (by decide)).trans hg_6
            have hg_7 := (hfr9 21 (by decide)).trans hg_7
            obtain ⟨v5647, hf5646⟩ : ∃ z : Int32, F 14 = z := ⟨_, rfl⟩
            have hq_v5647 := tk_rng v5647
            rw [hf5646] at hpo5637 hpo5639 hpo5640 hpo5641 hpo5643
            have hr_v5647 : 0 ≤ v5647.toInt ∧ v5647.toInt ≤ 400 := hIF.at hf5646
            obtain ⟨v5649, hf5648⟩ : ∃ z : Int32, F 15 = z := ⟨_, rfl⟩
            have hq_v5649 := tk_rng v5649
            rw [hf5648] at hpo5637 hpo5638 hpo5639 hpo5640
            have hr_v5649 : 0 ≤ v5649.toInt ∧ v5649.toInt ≤ 400 := hIF.at hf5648
            obtain ⟨v5651, hf5650⟩ : ∃ z : Int32, F 16 = z := ⟨_, rfl⟩
            have hq_v5651 := tk_rng v5651
            rw [hf5650] at hpo5639 hpo5640
            have hr_v5651 : 0 ≤ v5651.toInt ∧ v5651.toInt ≤ 3 := hIF.at hf5650
            obtain ⟨w5653, hf5652⟩ : ∃ z : Int64, G 17 = z := ⟨_, rfl⟩
            have hq_w5653 := tk_rngL w5653
            rw [hf5652] at hpo5640
            obtain ⟨v5655, hf5654⟩ : ∃ z : Int32, F 19 = z := ⟨_, rfl⟩
            have hq_v5655 := tk_rng v5655
            rw [hf5654] at hpo5642 hpo5643 hpo5644
            have hr_v5655 : 0 ≤ v5655.toInt ∧ v5655.toInt ≤ 1 := hIF.at hf5654
            have hL22 := hL22.to (hrr9 22 (by decide))
            have hC9 := hC
            have hC : v5655.toInt = 0 → CLS 8 [3, 5] (R 24) (R 25) (Ra 22) gc.toInt gn.toInt := fun h9 => (hC9 (by omega)).to (hrr9 24 (by decide)) (hrr9 25 (by decide))
            refine lv_aload_n hx hb dX13_readLaw_57 rfl (lv_at hl 2 rfl) ?_
            refine mz_getI hx hb htl hown hK hM 19 (Nat.le_of_ble_eq_true rfl) rfl (htl _ mw_668) (fun _ h9 => h9) dX13_readLaw_58 (fun v9 e9 => ?_)
            refine fx_ti (v := v5655) (e9.symm.trans hf5654) ?_
            refine lv_if_eq (tgt := 65) hx hb dX13_readLaw_61 (by decide) (fun c9 => ?_) (fun c9 => ?_)
            · have hc5656 : v5655.toInt = 0 := (fi_eq rfl (show (0 : Int32).toInt = 0 by decide)).mp c9
              have hwk_5657 : 0 ≤ (-1) * gt.toInt + v5647.toInt ∧ 0 ≤ (-1) := by omega
              exfalso
              omega
            · have hc5656 : ¬ (v5655.toInt = 0) := fun h9 => c9 ((fi_eq rfl (show (0 : Int32).toInt = 0 by decide)).mpr h9)
              exact mz_vret hx hb hr hlocks ⟨hIF, hIG, hIR, hFF, hRR, hGG, (by rw [hf5646, hf5648]; omega), (by rw [hf5648]; omega), (by rw [hf5646, hf5648, hf5650]; omega), (by rw [hf5646, hf5648, hf5650, hf5652]; omega), (by rw [hf5646]; omega), (by rw [hg_6]; omega), (by rw [hf5646, hg_6]; omega), (by rw [hf5654]; omega), (by rw [hf5646, hf5654]; omega), (by rw [hf5654]; exact fun h9 => absurd h9 (by omega))⟩ hM hS dX13_readLaw_64
          · have hc5636 : ¬ (12 ≤ gn.toInt) := fun h9 => c9 ((fi_le (show (12 : Int32).toInt = 12 by decide) rfl).mpr h9)
            refine lv_iconst (v := 1) hx hb dX13_readLaw_49 (by decide) ?_
            refine lv_goto (tgt := 54) hx hb dX13_readLaw_50 (by decide) ?_
            have hk_1 : (1 : Int32).toInt = 1 := by decide
            refine mz_Vv (As := [.int 1]) (rest := []) ⟨hx, hb, hml, hown, hts⟩ hK hM hS (k_X13_must l D cy ld ad am hD _ _ _ _ 1 gf gt gs gp gw gb hIF hIG hIR hg_0 hg_1 hg_2 hg_3 hg_4 hg_5 (by omega) (by omega) (by omega) (by omega) (by omega) (by omega)) ⟨callB_of 1 hts (wl_in mw_713) rfl rfl rfl (htl _ mw_5) (htl _ mw_710) hd_yX13_must ⟨(Nat.le_of_ble_eq_true rfl), (Nat.le_of_ble_eq_true rfl)⟩, htl _ mw_711, htl _ mw_712⟩ rfl hl.1 rfl (Nat.le_of_ble_eq_true rfl) dX13_readLaw_54 ⟨(Nat.le_of_ble_eq_true rfl), (Nat.le_of_ble_eq_true rfl)⟩ (fun H locs F G R S hpo hM hS => ?_)
            obtain ⟨hIF, hIG, hIR, hfr9, hrr9, hgr9, hpo5658, hpo5659, hpo5660, hpo5661, hpo5662, hpo5663, hpo5664, hpo5665⟩ := hpo
            have hFF := mz_fr (K := [14, 15, 16, 18, 19, 21, 23, 26, 29, 30]) (Fa := Fa) hfr9 (fun _ _ => rfl) (by decide)
            have hRR := mz_fr (K := [22, 24, 25, 27, 28]) (Fa := Ra) hrr9 (fun _ _ => rfl) (by decide)
            have hGG := mz_fr (K := [17]) (Fa := Ga) hgr9 (fun _ _ => rfl) (by decide)
            have hg_3 := (hfr9 13 (by decide)).trans hg_3
            have hg_6 := (hfr9 23 (by decide)).trans hg_6
            have hg_7 := (hfr9 21 (by decide)).trans hg_7
            obtain ⟨v5668, hf5667⟩ : ∃ z : Int32, F 14 = z := ⟨_, rfl⟩
            have hq_v5668 := tk_rng v5668
            rw [hf5667] at hpo5658 hpo5660 hpo5661 hpo5662 hpo5664
            have hr_v5668 : 0 ≤ v5668.toInt ∧ v5668.toInt ≤ 400 := hIF.at hf5667
            obtain ⟨v5670, hf5669⟩ : ∃ z : Int32, F 15 = z := ⟨_, rfl⟩
            have hq_v5670 := tk_rng v5670
            rw [hf5669] at hpo5658 hpo5659 hpo5660 hpo5661
            have hr_v5670 : 0 ≤ v5670.toInt ∧ v5670.toInt ≤ 400 := hIF.at hf5669
            obtain ⟨v5672, hf5671⟩ : ∃ z : Int32, F 16 = z := ⟨_, rfl⟩
            have hq_v5672 := tk_rng v5672
            rw [hf5671] at hpo5660 hpo5661
            have hr_v5672 : 0 ≤ v5672.toInt ∧ v5672.toInt ≤ 3 := hIF.at hf5671
            obtain ⟨w5674, hf5673⟩ : ∃ z : Int64, G 17 = z := ⟨_, rfl⟩
            have hq_w5674 := tk_rngL w5674
            rw [hf5673] at hpo5661
            obtain ⟨v5676, hf5675⟩ : ∃ z : Int32, F 19 = z := ⟨_, rfl⟩
            have hq_v5676 := tk_rng v5676
            rw [hf5675] at hpo5663 hpo5664 hpo5665
            have hr_v5676 : 0 ≤ v5676.toInt ∧ v5676.toInt ≤ 1 := hIF.at hf5675
            have hwk_5677 : v5676.toInt ≤ 0 := by omega
            have hwk_5678 : 0 ≤ (-1) * gt.toInt + v5668.toInt := by omega
            have hL22 := hL22.to (hrr9 22 (by decide))
            have hC9 := hC
            have hC : v5676.toInt = 0 → CLS 8 [3, 5] (R 24) (R 25) (Ra 22) gc.toInt gn.toInt := fun h9 => (hC9 (by omega)).to (hrr9 24 (by decide)) (hrr9 25 (by decide))
            refine lv_aload_n hx hb dX13_readLaw_57 rfl (lv_at hl 2 rfl) ?_
            refine mz_getI hx hb htl hown hK hM 19 (Nat.le_of_ble_eq_true rfl) rfl (htl _ mw_668) (fun _ h9 => h9) dX13_readLaw_58 (fun v9 e9 => ?_)
            refine fx_ti (v := v5676) (e9.symm.trans hf5675) ?_
            refine lv_if_eq (tgt := 65) hx hb dX13_readLaw_61 (by decide) (fun _ => ?_) (fun c9 => absurd ((fi_eq rfl (show (0 : Int32).toInt = 0 by decide)).mpr (show v5676.toInt = 0 by omega)) c9)
            refine lv_bipush (v := 8) hx hb dX13_readLaw_65 (by decide) ?_
            refine lv_aload_n hx hb dX13_readLaw_67 rfl (lv_at hl 2 rfl) ?_
            refine mz_getI hx hb htl hown hK hM 21 (Nat.le_of_ble_eq_true rfl) rfl (htl _ mw_669) (fun _ h9 => h9) dX13_readLaw_68 (fun v9 e9 => ?_)
            refine fx_ti (v := gn) (e9.symm.trans hg_7) ?_
            refine lv_imul hx hb dX13_readLaw_71 ?_
            refine tk_mul (show (8 : Int32).toInt = 8 by decide) rfl (by omega) (by omega) (fun v5679 h_v5679 => ?_)
            refine lv_istore_n (lv' := [(2, .int v5679), (1, .int v1067), (0, .ref am)]) hx hb dX13_readLaw_72 rfl hl (by decide) rfl (fun ls hl => ?_)
            refine lv_iconst (v := 0) hx hb dX13_readLaw_73 (by decide) ?_
            refine lv_istore_n (lv' := [(3, .int 0), (2, .int v5679), (1, .int v1067), (0, .ref am)]) hx hb dX13_readLaw_74 rfl hl (by decide) rfl (fun ls hl => ?_)
            have hl6385 : ∀ (N_l6385 : Nat) (v5680 : Int32) (H : Heap) (locs : List Loc) (R : Nat → Nat → Int32), (0 ≤ (-1) * v5676.toInt + v5680.toInt) → (v5680.toInt ≤ 8) → (mz_S D cy ad am F G R S H) → (va_S (mz_W ad am) s.heap H locs) → (mz_IR [] true R) → (∀ k : Nat, k ∉ ([22, 24, 25, 27, 28] : List Nat) → R k = Ra k) → (low (8 * gn.toInt.toNat) (Ra 22) (R 22)) → (v5676.toInt = 0 → CLS 8 [3, 5] (R 24) (R 25) (Ra 22) gc.toInt gn.toInt) → ((-1) * v5680.toInt + 8 < (N_l6385 : Int)) → ∀ ls : Array Slot, lv_has ls 4 [(3, .int v5680), (2, .int v5679), (1, .int v1067), (0, .ref am)] → W p l e ({ frames := 10, cells := 0, slots := 0, locals := 630 }) s m args below meth c H locs 0 0 (MQ below (mz_w D cy ad am (fun F G R S => mz_IF false F ∧ mz_IG G ∧ mz_IR [] true R ∧ (∀ k : Nat, k ∉ ([14, 15, 16, 18, 19, 21, 23, 26, 29, 30] : List Nat) → F k = Fa k) ∧ (∀ k : Nat, k ∉ ([22, 24, 25, 27, 28] : List Nat) → R k = Ra k) ∧ (∀ k : Nat, k ∉ ([17] : List Nat) → G k = Ga k) ∧ 0 ≤ (-1) * (F 14).toInt + (F 15).toInt ∧ 0 ≤ gp.toInt + (-1) * (F 15).toInt ∧ (1 ≤ (F 16).toInt → 0 ≤ (-1) * (F 14).toInt + (F 15).toInt + (-1)) ∧ (27 ≤ (G 17).toInt → 1 ≤ (F 16).toInt → (F 16).toInt ≤ 1 → 0 ≤ (-1) * (F 14).toInt + (F 15).toInt + (-2)) ∧ 0 ≤ (-1) * gf.toInt + (F 14).toInt ∧ 0 ≤ (-1) * gc.toInt + (F 23).toInt ∧ 0 ≤ (-1) * (F 23).toInt + (F 14).toInt ∧ 0 ≤ (-1) * gb.toInt + (F 19).toInt ∧ ((F 19).toInt ≤ 0 → 0 ≤ (-1) * gf.toInt + (F 14).toInt + (-1)) ∧ ((F 19).toInt = 0 → CLS 8 [3, 5] (R 24) (R 25) (R 22) (F 23).toInt (F 21).toInt))) args s 0 0 (mz_W ad am)) (F0 m 75 ls []) := by
              intro N_l6385
              induction N_l6385 with
              | zero => intro v5680 H locs R hq0_l6385 hq1_l6385 hM hS hIR hRR hL22 hC hm_l6385 ls hl; exfalso; omega
              | succ N_l6385 ih_l6385 =>
                intro v5680 H locs R hq0_l6385 hq1_l6385 hM hS hIR hRR hL22 hC hm_l6385 ls hl
                refine lv_iload_n hx hb dX13_readLaw_75 rfl (lv_at hl 0 rfl) ?_
                refine lv_bipush (v := 8) hx hb dX13_readLaw_76 (by decide) ?_
                refine lv_icmp_ge (tgt := 96) hx hb dX13_readLaw_78 (by decide) (fun c9 => ?_) (fun c9 => ?_)
                · have hc6386 : 8 ≤ v5680.toInt := (fi_le (show (8 : Int32).toInt = 8 by decide) rfl).mp c9
                  refine lv_aload_n hx hb dX13_readLaw_96 rfl (lv_at hl 3 rfl) ?_
                  refine mz_getR hx hb htl hown hK hM 22 (Nat.le_of_ble_eq_true rfl) (Nat.le_of_ble_eq_true rfl) (htl _ mw_197) (fun _ h9 => h9) dX13_readLaw_97 ?_
                  refine lv_iload_n hx hb dX13_readLaw_100 rfl (lv_at hl 1 rfl) ?_
                  refine lv_iload_n hx hb dX13_readLaw_101 rfl (lv_at hl 2 rfl) ?_
                  refine mz_iast (x := v1067) hx hb hK hD hM hS 22 (Nat.le_of_ble_eq_true rfl) rfl (nn := 96) rfl rfl (by omega) (by omega) dX13_readLaw_102 (fun H locs R hM hS hw9 hj9 => ?_)
                  have hIR := hIR.put hw9 hj9 trivial
                  have hL22 : low (8 * gn.toInt.toNat) (Ra 22) (R 22) := fun j hj => by rw [hw9, pk_un (fun h9 => by have h8 := tk_nat (i := v5679) rfl (by omega); omega)]; exact hL22 j hj
                  have hC9 := hC
                  have hC : v5676.toInt = 0 → CLS 8 [3, 5] (R 24) (R 25) (Ra 22) gc.toInt gn.toInt := fun h9 => (hC9 (by omega)).to (hj9 24 (by decide)) (hj9 25 (by decide))
                  have h22_0 : R 22 (8 * gn.toInt.toNat + 0) = v1067 := by rw [hw9, show 8 * gn.toInt.toNat + 0 = (v5679 : Int32).toNatClampNeg by show _ = v5679.toInt.toNat; omega]; exact pk_us
                  have hRR := mz_frp (K := [22, 24, 25, 27, 28]) (Fa := Ra) hj9 hRR (by decide)
                  refine lv_aload_n hx hb dX13_readLaw_103 rfl (lv_at hl 3 rfl) ?_
                  refine lv_dup hx hb dX13_readLaw_104 rfl ?_
                  refine mz_getI hx hb htl hown hK hM 21 (Nat.le_of_ble_eq_true rfl) rfl (htl _ mw_669) (fun _ h9 => h9) dX13_readLaw_105 (fun v9 e9 => ?_)
                  refine fx_ti (v := gn) (e9.symm.trans hg_7) ?_
                  refine lv_iconst (v := 1) hx hb dX13_readLaw_108 (by decide) ?_
                  refine lv_iadd hx hb dX13_readLaw_109 ?_
                  refine tk_add rfl (show (1 : Int32).toInt = 1 by decide) (by omega) (by omega) (fun v6388 h_v6388 => ?_)
                  refine mz_putI (ty := .int) (x := v6388) hx hb htl hown hK hD hM hS 21 (Nat.le_of_ble_eq_true rfl) rfl (htl _ mw_669) (fun _ h9 => h9) rfl (tyX13_ok 21 (by decide)) rfl rfl dX13_readLaw_110 (fun H locs F hM hS hf9 hj9 => ?_)
                  have hIF := hIF.put hf9 hj9 (show 0 ≤ (v6388 : Int32).toInt by omega) (show (v6388 : Int32).toInt ≤ 12 by omega) (by decide)
                  have hFF := mz_frp (K := [14, 15, 16, 18, 19, 21, 23, 26, 29, 30]) (Fa := Fa) hj9 hFF (by decide)
                  have hg_3 := (hj9 13 (by decide)).trans hg_3
                  have hg_6 := (hj9 23 (by decide)).trans hg_6
                  have hf5667 := (hj9 14 (by decide)).trans hf5667
                  have hf5669 := (hj9 15 (by decide)).trans hf5669
                  have hf5671 := (hj9 16 (by decide)).trans hf5671
                  have hf5675 := (hj9 19 (by decide)).trans hf5675
                  have hf6390 := hf9
                  refine lv_aload_n hx hb dX13_readLaw_113 rfl (lv_at hl 3 rfl) ?_
                  refine mz_getR hx hb htl hown hK hM 22 (Nat.le_of_ble_eq_true rfl) (Nat.le_of_ble_eq_true rfl) (htl _ mw_197) (fun _ h9 => h9) dX13_readLaw_114 ?_
                  refine lv_iload_n hx hb dX13_readLaw_117 rfl (lv_at hl 1 rfl) ?_
                  refine lv_iconst (v := 3) hx hb dX13_readLaw_118 (by decide) ?_
                  refine lv_iadd hx hb dX13_readLaw_119 ?_
                  refine tk_add rfl (show (3 : Int32).toInt = 3 by decide) (by omega) (by omega) (fun v6391 h_v6391 => ?_)
                  refine lv_aload_n hx hb dX13_readLaw_120 rfl (lv_at hl 3 rfl) ?_
                  refine mz_getI hx hb htl hown hK hM 23 (Nat.le_of_ble_eq_true rfl) rfl (htl _ mw_670) (fun _ h9 => h9) dX13_readLaw_121 (fun v9 e9 => ?_)
                  refine fx_ti (v := gc) (e9.symm.trans hg_6) ?_
                  refine mz_iast (x := gc) hx hb hK hD hM hS 22 (Nat.le_of_ble_eq_true rfl) rfl (nn := 96) rfl rfl (by omega) (by omega) dX13_readLaw_124 (fun H locs R hM hS hw9 hj9 => ?_)
                  have hIR := hIR.put hw9 hj9 trivial
                  have hL22 : low (8 * gn.toInt.toNat) (Ra 22) (R 22) := fun j hj => by rw [hw9, pk_un (fun h9 => by have h8 := tk_nat (i := v6391) rfl (by omega); omega)]; exact hL22 j hj
                  have h22_0 : R 22 (8 * gn.toInt.toNat + 0) = v1067 := by rw [hw9, pk_un (fun h9 => by have h8 := tk_nat (i := v6391) rfl (by omega); omega)]; exact h22_0
                  have hC9 := hC
                  have hC : v5676.toInt = 0 → CLS 8 [3, 5] (R 24) (R 25) (Ra 22) gc.toInt gn.toInt := fun h9 => (hC9 (by omega)).to (hj9 24 (by decide)) (hj9 25 (by decide))
                  have h22_3 : R 22 (8 * gn.toInt.toNat + 3) = gc := by rw [hw9, show 8 * gn.toInt.toNat + 3 = (v6391 : Int32).toNatClampNeg by show _ = v6391.toInt.toNat; omega]; exact pk_us
                  have hRR := mz_frp (K := [22, 24, 25, 27, 28]) (Fa := Ra) hj9 hRR (by decide)
                  refine lv_iload_n hx hb dX13_readLaw_125 rfl (lv_at hl 2 rfl) ?_
                  refine lv_iconst (v := 3) hx hb dX13_readLaw_126 (by decide) ?_
                  refine lv_icmp_eq (tgt := 135) hx hb dX13_readLaw_127 (by decide) (fun c9 => ?_) (fun c9 => ?_)
                  · have hc6393 : v1067.toInt = 3 := (fi_eq rfl (show (3 : Int32).toInt = 3 by decide)).mp c9
                    refine lv_aload_n hx hb dX13_readLaw_135 rfl (lv_at hl 3 rfl) ?_
                    refine mz_getR hx hb htl hown hK hM 22 (Nat.le_of_ble_eq_true rfl) (Nat.le_of_ble_eq_true rfl) (htl _ mw_197) (fun _ h9 => h9) dX13_readLaw_136 ?_
                    refine lv_iload_n hx hb dX13_readLaw_139 rfl (lv_at hl 1 rfl) ?_
                    refine lv_iconst (v := 4) hx hb dX13_readLaw_140 (by decide) ?_
                    refine lv_iadd hx hb dX13_readLaw_141 ?_
                    refine tk_add rfl (show (4 : Int32).toInt = 4 by decide) (by omega) (by omega) (fun v6394 h_v6394 => ?_)
                    refine lv_aload_n hx hb dX13_readLaw_142 rfl (lv_at hl 3 rfl) ?_
                    refine mz_getI hx hb htl hown hK hM 23 (Nat.le_of_ble_eq_true rfl) rfl (htl _ mw_670) (fun _ h9 => h9) dX13_readLaw_143 (fun v9 e9 => ?_)
                    refine fx_ti (v := gc) (e9.symm.trans hg_6) ?_
                    refine mz_iast (x := gc) hx hb hK hD hM hS 22 (Nat.le_of_ble_eq_true rfl) rfl (nn := 96) rfl rfl (by omega) (by omega) dX13_readLaw_146 (fun H locs R hM hS hw9 hj9 => ?_)
                    have hIR := hIR.put hw9 hj9 trivial
                    have hL22 : low (8 * gn.toInt.toNat) (Ra 22) (R 22) := fun j hj => by rw [hw9, pk_un (fun h9 => by have h8 := tk_nat (i := v6394) rfl (by omega); omega)]; exact hL22 j hj
                    have h22_0 : R 22 (8 * gn.toInt.toNat + 0) = v1067 := by rw [hw9, pk_un (fun h9 => by have h8 := tk_nat (i := v6394) rfl (by omega); omega)]; exact h22_0
                    have h22_3 : R 22 (8 * gn.toInt.toNat + 3) = gc := by rw [hw9, pk_un (fun h9 => by have h8 := tk_nat (i := v6394) rfl (by omega); omega)]; exact h22_3
                    have hC9 := hC
                    have hC : v5676.toInt = 0 → CLS 8 [3, 5] (R 24) (R 25) (Ra 22) gc.toInt gn.toInt := fun h9 => (hC9 (by omega)).to (hj9 24 (by decide)) (hj9 25 (by decide))
                    have h22_4 : R 22 (8 * gn.toInt.toNat + 4) = gc := by rw [hw9, show 8 * gn.toInt.toNat + 4 = (v6394 : Int32).toNatClampNeg by show _ = v6394.toInt.toNat; omega]; exact pk_us
                    have hRR := mz_frp (K := [22, 24, 25, 27, 28]) (Fa := Ra) hj9 hRR (by decide)
                    refine lv_aload_n hx hb dX13_readLaw_147 rfl (lv_at hl 3 rfl) ?_
                    refine mz_getR hx hb htl hown hK hM 22 (Nat.le_of_ble_eq_true rfl) (Nat.le_of_ble_eq_true rfl) (htl _ mw_197) (fun _ h9 => h9) dX13_readLaw_148 ?_
                    refine lv_iload_n hx hb dX13_readLaw_151 rfl (lv_at hl 1 rfl) ?_
                    refine lv_iconst (v := 5) hx hb dX13_readLaw_152 (by decide) ?_
                    refine lv_iadd hx hb dX13_readLaw_153 ?_
                    refine tk_add rfl (show (5 : Int32).toInt = 5 by decide) (by omega) (by omega) (fun v6396 h_v6396 => ?_)
                    refine lv_aload_n hx hb dX13_readLaw_154 rfl (lv_at hl 3 rfl) ?_
                    refine mz_getI hx hb htl hown hK hM 23 (Nat.le_of_ble_eq_true rfl) rfl (htl _ mw_670) (fun _ h9 => h9) dX13_readLaw_155 (fun v9 e9 => ?_)
                    refine fx_ti (v := gc) (e9.symm.trans hg_6) ?_
                    refine mz_iast (x := gc) hx hb hK hD hM hS 22 (Nat.le_of_ble_eq_true rfl) rfl (nn := 96) rfl rfl (by omega) (by omega) dX13_readLaw_158 (fun H locs R hM hS hw9 hj9 => ?_)
                    have hIR := hIR.put hw9 hj9 trivial
                    have hL22 : low (8 * gn.toInt.toNat) (Ra 22) (R 22) := fun j hj => by rw [hw9, pk_un (fun h9 => by have h8 := tk_nat (i := v6396) rfl (by omega); omega)]; exact hL22 j hj
                    have h22_0 : R 22 (8 * gn.toInt.toNat + 0) = v1067 := by rw [hw9, pk_un (fun h9 => by have h8 := tk_nat (i := v6396) rfl (by omega); omega)]; exact h22_0
                    have h22_3 : R 22 (8 * gn.toInt.toNat + 3) = gc := by rw [hw9, pk_un (fun h9 => by have h8 := tk_nat (i := v6396) rfl (by omega); omega)]; exact h22_3
                    have h22_4 : R 22 (8 * gn.toInt.toNat + 4) = gc := by rw [hw9, pk_un (fun h9 => by have h8 := tk_nat (i := v6396) rfl (by omega); omega)]; exact h22_4
                    have hC9 := hC
                    have hC : v5676.toInt = 0 → CLS 8 [3, 5] (R 24) (R 25) (Ra 22) gc.toInt gn.toInt := fun h9 => (hC9 (by omega)).to (hj9 24 (by decide)) (hj9 25 (by decide))
                    have h22_5 : R 22 (8 * gn.toInt.toNat + 5) = gc := by rw [hw9, show 8 * gn.toInt.toNat + 5 = (v6396 : Int32).toNatClampNeg by show _ = v6396.toInt.toNat; omega]; exact pk_us
                    have hRR := mz_frp (K := [22, 24, 25, 27, 28]) (Fa := Ra) hj9 hRR (by decide)
                    refine lv_aload_n hx hb dX13_readLaw_159 rfl (lv_at hl 3 rfl) ?_
                    refine mz_getI hx hb htl hown hK hM 19 (Nat.le_of_ble_eq_true rfl) rfl (htl _ mw_668) (fun _ h9 => h9) dX13_readLaw_160 (fun v9 e9 => ?_)
                    refine fx_ti (v := v5676) (e9.symm.trans hf5675) ?_
                    refine lv_if_ne (tgt := 185) hx hb dX13_readLaw_163 (by decide) (fun c9 => absurd ((fi_eq rfl (show (0 : Int32).toInt = 0 by decide)).mpr (show v5676.toInt = 0 by omega)) c9) (fun _ => ?_)
                    refine lv_aload_n hx hb dX13_readLaw_166 rfl (lv_at hl 3 rfl) ?_
                    refine lv_ldc2 hx hb hown (htl _ mw_705) dX13_readLaw_167 ?_
                    have hk_294 : (294 : Int64).toInt = 294 := by decide
                    refine mz_Vj (As := [.long 294]) (rest := []) ⟨hx, hb, hml, hown, hts⟩ hK hM hS (k_X13_isWord l D cy ld ad am hD _ _ _ _ 294 v5672 w5674 hIF hIG hIR hf5671 hf5673) ⟨callB_of 1 hts (wl_in mw_709) rfl rfl rfl (htl _ mw_5) (htl _ mw_706) hd_yX13_isWord ⟨(Nat.le_of_ble_eq_true rfl), (Nat.le_of_ble_eq_true rfl)⟩, htl _ mw_707, htl _ mw_708⟩ rfl hl.1 rfl (Nat.le_of_ble_eq_true rfl) dX13_readLaw_170 ⟨(Nat.le_of_ble_eq_true rfl), (Nat.le_of_ble_eq_true rfl)⟩ (fun v6398 H locs hpo hM hS => ?_)
                    obtain ⟨hpo6399, hpo6400, hpo6401, hpo6402, hpo6403⟩ := hpo
                    have hq_v6398 := tk_rng v6398
                    refine lv_if_eq (tgt := 185) hx hb dX13_readLaw_173 (by decide) (fun c9 => ?_) (fun c9 => ?_)
                    · have hc6405 : v6398.toInt = 0 := (fi_eq rfl (show (0 : Int32).toInt = 0 by decide)).mp c9
                      refine lv_aload_n hx hb dX13_readLaw_185 rfl (lv_at hl 3 rfl) ?_
                      refine mz_getR hx hb htl hown hK hM 22 (Nat.le_of_ble_eq_true rfl) (Nat.le_of_ble_eq_true rfl) (htl _ mw_197) (fun _ h9 => h9) dX13_readLaw_186 ?_
                      refine lv_iload_n hx hb dX13_readLaw_189 rfl (lv_at hl 1 rfl) ?_
                      refine lv_bipush (v := 6) hx hb dX13_readLaw_190 (by decide) ?_
                      refine lv_iadd hx hb dX13_readLaw_192 ?_
                      refine tk_add rfl (show (6 : Int32).toInt = 6 by decide) (by omega) (by omega) (fun v6406 h_v6406 => ?_)
                      refine lv_aload_n hx hb dX13_readLaw_193 rfl (lv_at hl 3 rfl) ?_
                      refine mz_getI hx hb htl hown hK hM 23 (Nat.le_of_ble_eq_true rfl) rfl (htl _ mw_670) (fun _ h9 => h9) dX13_readLaw_194 (fun v9 e9 => ?_)
                      refine fx_ti (v := gc) (e9.symm.trans hg_6) ?_
                      refine mz_iast (x := gc) hx hb hK hD hM hS 22 (Nat.le_of_ble_eq_true rfl) rfl (nn := 96) rfl rfl (by omega) (by omega) dX13_readLaw_197 (fun H locs R hM hS hw9 hj9 => ?_)
                      have hIR := hIR.put hw9 hj9 trivial
                      have hL22 : low (8 * gn.toInt.toNat) (Ra 22) (R 22) := fun j hj => by rw [hw9, pk_un (fun h9 => by have h8 := tk_nat (i := v6406) rfl (by omega); omega)]; exact hL22 j hj
                      have h22_0 : R 22 (8 * gn.toInt.toNat + 0) = v1067 := by rw [hw9, pk_un (fun h9 => by have h8 := tk_nat (i := v6406) rfl (by omega); omega)]; exact h22_0
                      have h22_3 : R 22 (8 * gn.toInt.toNat + 3) = gc := by rw [hw9, pk_un (fun h9 => by have h8 := tk_nat (i := v6406) rfl (by omega); omega)]; exact h22_3
                      have h22_4 : R 22 (8 * gn.toInt.toNat + 4) = gc := by rw [hw9, pk_un (fun h9 => by have h8 := tk_nat (i := v6406) rfl (by omega); omega)]; exact h22_4
                      have h22_5 : R 22 (8 * gn.toInt.toNat + 5) = gc := by rw [hw9, pk_un (fun h9 => by have h8 := tk_nat (i := v6406) rfl (by omega); omega)]; exact h22_5
                      have hC9 := hC
                      have hC : v5676.toInt = 0 → CLS 8 [3, 5] (R 24) (R 25) (Ra 22) gc.toInt gn.toInt := fun h9 => (hC9 (by omega)).to (hj9 24 (by decide)) (hj9 25 (by decide))
                      have h22_6 : R 22 (8 * gn.toInt.toNat + 6) = gc := by rw [hw9, show 8 * gn.toInt.toNat + 6 = (v6406 : Int32).toNatClampNeg by show _ = v6406.toInt.toNat; omega]; exact pk_us
                      have hRR := mz_frp (K := [22, 24, 25, 27, 28]) (Fa := Ra) hj9 hRR (by decide)
                      exact mz_vret hx hb hr hlocks ⟨hIF, hIG, hIR, hFF, hRR, hGG, (by rw [hf5667, hf5669]; omega), (by rw [hf5669]; omega), (by rw [hf5667, hf5669, hf5671]; omega), (by rw [hf5667, hf5669, hf5671, hf5673]; omega), (by rw [hf5667]; omega), (by rw [hg_6]; omega), (by rw [hf5667, hg_6]; omega), (by rw [hf5675]; omega), (by rw [hf5667, hf5675]; omega), (by rw [hf5675, hg_6, hf6390]; exact fun h9 => mz_snoc (N := gn.toInt.toNat) (hC h9) (by omega) (by omega) hL22 (by decide) (by omega) (by intro d hd; simp only [List.mem_cons, List.not_mem_nil, or_false] at hd; rcases hd with rfl | rfl <;> first | (rw [show 8 * gn.toInt.toNat + 3 + 1 = 8 * gn.toInt.toNat + 4 from rfl, h22_3, h22_4]; exact ⟨WFX.nil (by omega) (by omega), by omega⟩) | (rw [show 8 * gn.toInt.toNat + 5 + 1 = 8 * gn.toInt.toNat + 6 from rfl, h22_5, h22_6]; exact ⟨WFX.nil (by omega) (by omega), by omega⟩)))⟩ hM hS dX13_readLaw_198
                    · have hc6405 : ¬ (v6398.toInt = 0) := fun h9 => c9 ((fi_eq rfl (show (0 : Int32).toInt = 0 by decide)).mpr h9)
                      have hwk_6408 : w5674.toInt + (-294) = 0 ∧ v5672.toInt + (-1) = 0 := by omega
                      have hwk_6409 : 0 ≤ (-1) * v5668.toInt + v5670.toInt + (-1) := by omega
                      have hwk_6410 : 0 ≤ (-1) * v5668.toInt + v5670.toInt + (-2) := by omega
                      refine lv_aload_n hx hb dX13_readLaw_176 rfl (lv_at hl 3 rfl) ?_
                      refine mz_Vv (As := []) (rest := []) ⟨hx, hb, hml, hown, hts⟩ hK hM hS (k_X13_next l D cy ld ad am hD _ _ _ _ v5670 gp hIF hIG hIR hf5669 hg_3 (by omega)) ⟨callB_of 0 hts (wl_in mw_685) rfl rfl rfl (htl _ mw_5) (htl _ mw_682) hd_yX13_next ⟨(Nat.le_of_ble_eq_true rfl), (Nat.le_of_ble_eq_true rfl)⟩, htl _ mw_683, htl _ mw_684⟩ rfl hl.1 rfl (Nat.le_of_ble_eq_true rfl) dX13_readLaw_177 ⟨(Nat.le_of_ble_eq_true rfl), (Nat.le_of_ble_eq_true rfl)⟩ (fun H locs F G R S hpo hM hS => ?_)
                      obtain ⟨hIF, hIG, hIR, hfr9, hrr9, hgr9, hpo6411, hpo6412, hpo6413, hpo6414, hpo6415⟩ := hpo
                      have hFF := mz_fr (K := [14, 15, 16, 18, 19, 21, 23, 26, 29, 30]) (Fa := Fa) hfr9 hFF (by decide)
                      have hRR := mz_fr (K := [22, 24, 25, 27, 28]) (Fa := Ra) hrr9 hRR (by decide)
                      have hGG := mz_fr (K := [17]) (Fa := Ga) hgr9 hGG (by decide)
                      have hg_3 := (hfr9 13 (by decide)).trans hg_3
                      have hg_6 := (hfr9 23 (by decide)).trans hg_6
                      have hf5675 := (hfr9 19 (by decide)).trans hf5675
                      have hf6390 := (hfr9 21 (by decide)).trans hf6390
                      obtain ⟨v6418, hf6417⟩ : ∃ z : Int32, F 14 = z := ⟨_, rfl⟩
                      have hq_v6418 := tk_rng v6418
                      rw [hf6417] at hpo6411 hpo6412 hpo6414 hpo6415
                      have hr_v6418 : 0 ≤ v6418.toInt ∧ v6418.toInt ≤ 400 := hIF.at hf6417
                      obtain ⟨v6420, hf6419⟩ : ∃ z : Int32, F 15 = z := ⟨_, rfl⟩
                      have hq_v6420 := tk_rng v6420
                      rw [hf6419] at hpo6412 hpo6413 hpo6414 hpo6415
                      have hr_v6420 : 0 ≤ v6420.toInt ∧ v6420.toInt ≤ 400 := hIF.at hf6419
                      obtain ⟨v6422, hf6421⟩ : ∃ z : Int32, F 16 = z := ⟨_, rfl⟩
                      have hq_v6422 := tk_rng v6422
                      rw [hf6421] at hpo6414 hpo6415
                      have hr_v6422 : 0 ≤ v6422.toInt ∧ v6422.toInt ≤ 3 := hIF.at hf6421
                      obtain ⟨w6424, hf6423⟩ : ∃ z : Int64, G 17 = z := ⟨_, rfl⟩
                      have hq_w6424 := tk_rngL w6424
                      rw [hf6423] at hpo6415
                      have hL22 := hL22.to (hrr9 22 (by decide))
                      have h22_0 := (congrFun (hrr9 22 (by decide)) _).trans h22_0
                      have h22_3 := (congrFun (hrr9 22 (by decide)) _).trans h22_3
                      have h22_4 := (congrFun (hrr9 22 (by decide)) _).trans h22_4
                      have h22_5 := (congrFun (hrr9 22 (by decide)) _).trans h22_5
                      have hC9 := hC
                      have hC : v5676.toInt = 0 → CLS 8 [3, 5] (R 24) (R 25) (Ra 22) gc.toInt gn.toInt := fun h9 => (hC9 (by omega)).to (hrr9 24 (by decide)) (hrr9 25 (by decide))
                      refine lv_aload_n hx hb dX13_readLaw_180 rfl (lv_at hl 3 rfl) ?_
                      refine lv_iconst (v := 1) hx hb dX13_readLaw_181 (by decide) ?_
                      have hk_1 : (1 : Int32).toInt = 1 := by decide
                      refine mz_Vv (As := [.int 1]) (rest := []) ⟨hx, hb, hml, hown, hts⟩ hK hM hS (k_X13_readExpression l D cy ld ad am hD _ _ _ _ 1 v6418 v6420 v6422 gp w6424 v5676 gc hIF hIG hIR hf6417 hf6419 hf6421 hg_3 hf6423 hf5675 hg_6 (by omega) (by omega) (by omega) (by omega) (by omega) (by omega) (by omega) (by omega)) ⟨callB_of 1 hts (wl_in mw_717) rfl rfl rfl (htl _ mw_5) (htl _ mw_714) hd_yX13_readExpression ⟨(Nat.le_of_ble_eq_true rfl), (Nat.le_of_ble_eq_true rfl)⟩, htl _ mw_715, htl _ mw_716⟩ rfl hl.1 rfl (Nat.le_of_ble_eq_true rfl) dX13_readLaw_182 ⟨(Nat.le_of_ble_eq_true rfl), (Nat.le_of_ble_eq_true rfl)⟩ (fun H locs F G R S hpo hM hS => ?_)
                      obtain ⟨hIF, hIG, hIR, hfr9, hrr9, hgr9, hpo6425, hpo6426, hpo6427, hpo6428, hpo6429, hpo6430, hpo6431, hx6432⟩ := hpo
                      have hFF := mz_fr (K := [14, 15, 16, 18, 19, 21, 23, 26, 29, 30]) (Fa := Fa) hfr9 hFF (by decide)
                      have hRR := mz_fr (K := [22, 24, 25, 27, 28]) (Fa := Ra) hrr9 hRR (by decide)
                      have hGG := mz_fr (K := [17]) (Fa := Ga) hgr9 hGG (by decide)
                      have hg_3 := (hfr9 13 (by decide)).trans hg_3
                      have hf6390 := (hfr9 21 (by decide)).trans hf6390
                      obtain ⟨v6435, hf6434⟩ : ∃ z : Int32, F 14 = z := ⟨_, rfl⟩
                      have hq_v6435 := tk_rng v6435
                      rw [hf6434] at hpo6425 hpo6427 hpo6428 hpo6429 hpo6430
                      have hr_v6435 : 0 ≤ v6435.toInt ∧ v6435.toInt ≤ 400 := hIF.at hf6434
                      obtain ⟨v6437, hf6436⟩ : ∃ z : Int32, F 15 = z := ⟨_, rfl⟩
                      have hq_v6437 := tk_rng v6437
                      rw [hf6436] at hpo6425 hpo6426 hpo6427 hpo6428
                      have hr_v6437 : 0 ≤ v6437.toInt ∧ v6437.toInt ≤ 400 := hIF.at hf6436
                      obtain ⟨v6439, hf6438⟩ : ∃ z : Int32, F 16 = z := ⟨_, rfl⟩
                      have hq_v6439 := tk_rng v6439
                      rw [hf6438] at hpo6427 hpo6428
                      have hr_v6439 : 0 ≤ v6439.toInt ∧ v6439.toInt ≤ 3 := hIF.at hf6438
                      obtain ⟨w6441, hf6440⟩ : ∃ z : Int64, G 17 = z := ⟨_, rfl⟩
                      have hq_w6441 := tk_rngL w6441
                      rw [hf6440] at hpo6428
                      obtain ⟨v6443, hf6442⟩ : ∃ z : Int32, F 19 = z := ⟨_, rfl⟩
                      have hq_v6443 := tk_rng v6443
                      have hr_v6443 : 0 ≤ v6443.toInt ∧ v6443.toInt ≤ 1 := hIF.at hf6442
                      obtain ⟨v6445, hf6444⟩ : ∃ z : Int32, F 23 = z := ⟨_, rfl⟩
                      have hq_v6445 := tk_rng v6445
                      rw [hf6444] at hpo6430 hpo6431
                      have hr_v6445 : 0 ≤ v6445.toInt ∧ v6445.toInt ≤ 400 := hIF.at hf6444
                      have hL22 := hL22.to (hrr9 22 (by decide))
                      have h22_0 := (congrFun (hrr9 22 (by decide)) _).trans h22_0
                      have h22_3 := (congrFun (hrr9 22 (by decide)) _).trans h22_3
                      have h22_4 := (congrFun (hrr9 22 (by decide)) _).trans h22_4
                      have h22_5 := (congrFun (hrr9 22 (by decide)) _).trans h22_5
                      have hE9 : v6443.toInt = 0 → WFC (R 24) (R 25) gc.toInt.toNat v6445.toInt.toNat ∧ low gc.toInt.toNat _ (R 24) ∧ low gc.toInt.toNat _ (R 25) := fun h9 => by have h8 := hx6432 (by rw [hf6442]; exact h9); rw [hf6444] at h8; exact h8
                      have hC9 := hC (by omega)
                      have hC : v6443.toInt = 0 → CLS 8 [3, 5] (R 24) (R 25) (Ra 22) gc.toInt gn.toInt := fun h9 => hC9.low (N := gc.toInt.toNat) (by omega) (hE9 h9).2.1 (hE9 h9).2.2
                      have hX6446 : v6443.toInt = 0 → WFX (R 24) (R 25) gc v6445 := fun h9 => ⟨by omega, by omega, by omega, (hE9 h9).1⟩
                      refine lv_aload_n hx hb dX13_readLaw_185 rfl (lv_at hl 3 rfl) ?_
                      refine mz_getR hx hb htl hown hK hM 22 (Nat.le_of_ble_eq_true rfl) (Nat.le_of_ble_eq_true rfl) (htl _ mw_197) (fun _ h9 => h9) dX13_readLaw_186 ?_
                      refine lv_iload_n hx hb dX13_readLaw_189 rfl (lv_at hl 1 rfl) ?_
                      refine lv_bipush (v := 6) hx hb dX13_readLaw_190 (by decide) ?_
                      refine lv_iadd hx hb dX13_readLaw_192 ?_
                      refine tk_add rfl (show (6 : Int32).toInt = 6 by decide) (by omega) (by omega) (fun v6447 h_v6447 => ?_)
                      refine lv_aload_n hx hb dX13_readLaw_193 rfl (lv_at hl 3 rfl) ?_
                      refine mz_getI hx hb htl hown hK hM 23 (Nat.le_of_ble_eq_true rfl) rfl (htl _ mw_670) (fun _ h9 => h9) dX13_readLaw_194 (fun v9 e9 => ?_)
                      refine fx_ti (v := v6445) (e9.symm.trans hf6444) ?_
                      refine mz_iast (x := v6445) hx hb hK hD hM hS 22 (Nat.le_of_ble_eq_true rfl) rfl (nn := 96) rfl rfl (by omega) (by omega) dX13_readLaw_197 (fun H locs R hM hS hw9 hj9 => ?_)
                      have hIR := hIR.put hw9 hj9 trivial
                      have hL22 : low (8 * gn.toInt.toNat) (Ra 22) (R 22) := fun j hj => by rw [hw9, pk_un (fun h9 => by have h8 := tk_nat (i := v6447) rfl (by omega); omega)]; exact hL22 j hj
                      have h22_0 : R 22 (8 * gn.toInt.toNat + 0) = v1067 := by rw [hw9, pk_un (fun h9 => by have h8 := tk_nat (i := v6447) rfl (by omega); omega)]; exact h22_0
                      have h22_3 : R 22 (8 * gn.toInt.toNat + 3) = gc := by rw [hw9, pk_un (fun h9 => by have h8 := tk_nat (i := v6447) rfl (by omega); omega)]; exact h22_3
                      have h22_4 : R 22 (8 * gn.toInt.toNat + 4) = gc := by rw [hw9, pk_un (fun h9 => by have h8 := tk_nat (i := v6447) rfl (by omega); omega)]; exact h22_4
                      have h22_5 : R 22 (8 * gn.toInt.toNat + 5) = gc := by rw [hw9, pk_un (fun h9 => by have h8 := tk_nat (i := v6447) rfl (by omega); omega)]; exact h22_5
                      have hC9 := hC
                      have hC : v6443.toInt = 0 → CLS 8 [3, 5] (R 24) (R 25) (Ra 22) gc.toInt gn.toInt := fun h9 => (hC9 (by omega)).to (hj9 24 (by decide)) (hj9 25 (by decide))
                      have hX64469 := hX6446
                      have hX6446 : v6443.toInt = 0 → WFX (R 24) (R 25) gc v6445 := fun h9 => by rw [hj9 24 (by decide), hj9 25 (by decide)]; exact hX64469 (by omega)
                      have h22_6 : R 22 (8 * gn.toInt.toNat + 6) = v6445 := by rw [hw9, show 8 * gn.toInt.toNat + 6 = (v6447 : Int32).toNatClampNeg by show _ = v6447.toInt.toNat; omega]; exact pk_us
                      have hRR := mz_frp (K := [22, 24, 25, 27, 28]) (Fa := Ra) hj9 hRR (by decide)
                      exact mz_vret hx hb hr hlocks ⟨hIF, hIG, hIR, hFF, hRR, hGG, (by rw [hf6434, hf6436]; omega), (by rw [hf6436]; omega), (by rw [hf6434, hf6436, hf6438]; omega), (by rw [hf6434, hf6436, hf6438, hf6440]; omega), (by rw [hf6434]; omega), (by rw [hf6444]; omega), (by rw [hf6434, hf6444]; omega), (by rw [hf6442]; omega), (by rw [hf6434, hf6442]; omega), (by rw [hf6442, hf6444, hf6390]; exact fun h9 => mz_snoc (N := gn.toInt.toNat) (hC h9) (by omega) (by omega) hL22 (by decide) (by omega) (by intro d hd; simp only [List.mem_cons, List.not_mem_nil, or_false] at hd; rcases hd with rfl | rfl <;> first | (rw [show 8 * gn.toInt.toNat + 3 + 1 = 8 * gn.toInt.toNat + 4 from rfl, h22_3, h22_4]; exact ⟨WFX.nil (by omega) (by omega), by omega⟩) | (rw [show 8 * gn.toInt.toNat + 5 + 1 = 8 * gn.toInt.toNat + 6 from rfl, h22_5, h22_6]; exact ⟨hX6446 h9, by omega⟩)))⟩ hM hS dX13_readLaw_198
                  · have hc6393 : ¬ (v1067.toInt = 3) := fun h9 => c9 ((fi_eq rfl (show (3 : Int32).toInt = 3 by decide)).mpr h9)
                    refine lv_aload_n hx hb dX13_readLaw_130 rfl (lv_at hl 3 rfl) ?_
                    refine lv_iconst (v := 0) hx hb dX13_readLaw_131 (by decide) ?_
                    have hk_0 : (0 : Int32).toInt = 0 := by decide
                    refine mz_Vv (As := [.int 0]) (rest := []) ⟨hx, hb, hml, hown, hts⟩ hK hM hS (k_X13_readExpression l D cy ld ad am hD _ _ _ _ 0 v5668 v5670 v5672 gp w5674 v5676 gc hIF hIG hIR hf5667 hf5669 hf5671 hg_3 hf5673 hf5675 hg_6 (by omega) (by omega) (by omega) (by omega) (by omega) (by omega) (by omega) (by omega)) ⟨callB_of 1 hts (wl_in mw_717) rfl rfl rfl (htl _ mw_5) (htl _ mw_714) hd_yX13_readExpression ⟨(Nat.le_of_ble_eq_true rfl), (Nat.le_of_ble_eq_true rfl)⟩, htl _ mw_715, htl _ mw_716⟩ rfl hl.1 rfl (Nat.le_of_ble_eq_true rfl) dX13_readLaw_132 ⟨(Nat.le_of_ble_eq_true rfl), (Nat.le_of_ble_eq_true rfl)⟩ (fun H locs F G R S hpo hM hS => ?_)
                    obtain ⟨hIF, hIG, hIR, hfr9, hrr9, hgr9, hpo6449, hpo6450, hpo6451, hpo6452, hpo6453, hpo6454, hpo6455, hx6456⟩ := hpo
                    have hFF := mz_fr (K := [14, 15, 16, 18, 19, 21, 23, 26, 29, 30]) (Fa := Fa) hfr9 hFF (by decide)
                    have hRR := mz_fr (K := [22, 24, 25, 27, 28]) (Fa := Ra) hrr9 hRR (by decide)
                    have hGG := mz_fr (K := [17]) (Fa := Ga) hgr9 hGG (by decide)
                    have hg_3 := (hfr9 13 (by decide)).trans hg_3
                    have hf6390 := (hfr9 21 (by decide)).trans hf6390
                    obtain ⟨v6459, hf6458⟩ : ∃ z : Int32, F 14 = z := ⟨_, rfl⟩
                    have hq_v6459 := tk_rng v6459
                    rw [hf6458] at hpo6449 hpo6451 hpo6452 hpo6453 hpo6454
                    have hr_v6459 : 0 ≤ v6459.toInt ∧ v6459.toInt ≤ 400 := hIF.at hf6458
                    obtain ⟨v6461, hf6460⟩ : ∃ z : Int32, F 15 = z := ⟨_, rfl⟩
                    have hq_v6461 := tk_rng v6461
                    rw [hf6460] at hpo6449 hpo6450 hpo6451 hpo6452
                    have hr_v6461 : 0 ≤ v6461.toInt ∧ v6461.toInt ≤ 400 := hIF.at hf6460
                    obtain ⟨v6463, hf6462⟩ : ∃ z : Int32, F 16 = z := ⟨_, rfl⟩
                    have hq_v6463 := tk_rng v6463
                    rw [hf6462] at hpo6451 hpo6452
                    have hr_v6463 : 0 ≤ v6463.toInt ∧ v6463.toInt ≤ 3 := hIF.at hf6462
                    obtain ⟨w6465, hf6464⟩ : ∃ z : Int64, G 17 = z := ⟨_, rfl⟩
                    have hq_w6465 := tk_rngL w6465
                    rw [hf6464] at hpo6452
                    obtain ⟨v6467, hf6466⟩ : ∃ z : Int32, F 19 = z := ⟨_, rfl⟩
                    have hq_v6467 := tk_rng v6467
                    have hr_v6467 : 0 ≤ v6467.toInt ∧ v6467.toInt ≤ 1 := hIF.at hf6466
                    obtain ⟨v6469, hf6468⟩ : ∃ z : Int32, F 23 = z := ⟨_, rfl⟩
                    have hq_v6469 := tk_rng v6469
                    rw [hf6468] at hpo6454 hpo6455
                    have hr_v6469 : 0 ≤ v6469.toInt ∧ v6469.toInt ≤ 400 := hIF.at hf6468
                    have hL22 := hL22.to (hrr9 22 (by decide))
                    have h22_0 := (congrFun (hrr9 22 (by decide)) _).trans h22_0
                    have h22_3 := (congrFun (hrr9 22 (by decide)) _).trans h22_3
                    have hE9 : v6467.toInt = 0 → WFC (R 24) (R 25) gc.toInt.toNat v6469.toInt.toNat ∧ low gc.toInt.toNat _ (R 24) ∧ low gc.toInt.toNat _ (R 25) := fun h9 => by have h8 := hx6456 (by rw [hf6466]; exact h9); rw [hf6468] at h8; exact h8
                    have hC9 := hC (by omega)
                    have hC : v6467.toInt = 0 → CLS 8 [3, 5] (R 24) (R 25) (Ra 22) gc.toInt gn.toInt := fun h9 => hC9.low (N := gc.toInt.toNat) (by omega) (hE9 h9).2.1 (hE9 h9).2.2
                    have hX6470 : v6467.toInt = 0 → WFX (R 24) (R 25) gc v6469 := fun h9 => ⟨by omega, by omega, by omega, (hE9 h9).1⟩
                    refine lv_aload_n hx hb dX13_readLaw_135 rfl (lv_at hl 3 rfl) ?_
                    refine mz_getR hx hb htl hown hK hM 22 (Nat.le_of_ble_eq_true rfl) (Nat.le_of_ble_eq_true rfl) (htl _ mw_197) (fun _ h9 => h9) dX13_readLaw_136 ?_
                    refine lv_iload_n hx hb dX13_readLaw_139 rfl (lv_at hl 1 rfl) ?_
                    refine lv_iconst (v := 4) hx hb dX13_readLaw_140 (by decide) ?_
                    refine lv_iadd hx hb dX13_readLaw_141 ?_
                    refine tk_add rfl (show (4 : Int32).toInt = 4 by decide) (by omega) (by omega) (fun v6471 h_v6471 => ?_)
                    refine lv_aload_n hx hb dX13_readLaw_142 rfl (lv_at hl 3 rfl) ?_
                    refine mz_getI hx hb htl hown hK hM 23 (Nat.le_of_ble_eq_true rfl) rfl (htl _ mw_670) (fun _ h9 => h9) dX13_readLaw_143 (fun v9 e9 => ?_)
                    refine fx_ti (v := v6469) (e9.symm.trans hf6468) ?_
                    refine mz_iast (x := v6469) hx hb hK hD hM hS 22 (Nat.le_of_ble_eq_true rfl) rfl (nn := 96) rfl rfl (by omega) (by omega) dX13_readLaw_146 (fun H locs R hM hS hw9 hj9 => ?_)
                    have hIR := hIR.put hw9 hj9 trivial
                    have hL22 : low (8 * gn.toInt.toNat) (Ra 22) (R 22) := fun j hj => by rw [hw9, pk_un (fun h9 => by have h8 := tk_nat (i := v6471) rfl (by omega); omega)]; exact hL22 j hj
                    have h22_0 : R 22 (8 * gn.toInt.toNat + 0) = v1067 := by rw [hw9, pk_un (fun h9 => by have h8 := tk_nat (i := v6471) rfl (by omega); omega)]; exact h22_0
                    have h22_3 : R 22 (8 * gn.toInt.toNat + 3) = gc := by rw [hw9, pk_un (fun h9 => by have h8 := tk_nat (i := v6471) rfl (by omega); omega)]; exact h22_3
                    have hC9 := hC
                    have hC : v6467.toInt = 0 → CLS 8 [3, 5] (R 24) (R 25) (Ra 22) gc.toInt gn.toInt := fun h9 => (hC9 (by omega)).to (hj9 24 (by decide)) (hj9 25 (by decide))
                    have hX64709 := hX6470
                    have hX6470 : v6467.toInt = 0 → WFX (R 24) (R 25) gc v6469 := fun h9 => by rw [hj9 24 (by decide), hj9 25 (by decide)]; exact hX64709 (by omega)
                    have h22_4 : R 22 (8 * gn.toInt.toNat + 4) = v6469 := by rw [hw9, show 8 * gn.toInt.toNat + 4 = (v6471 : Int32).toNatClampNeg by show _ = v6471.toInt.toNat; omega]; exact pk_us
                    have hRR := mz_frp (K := [22, 24, 25, 27, 28]) (Fa := Ra) hj9 hRR (by decide)
                    refine lv_aload_n hx hb dX13_readLaw_147 rfl (lv_at hl 3 rfl) ?_
                    refine mz_getR hx hb htl hown hK hM 22 (Nat.le_of_ble_eq_true rfl) (Nat.le_of_ble_eq_true rfl) (htl _ mw_197) (fun _ h9 => h9) dX13_readLaw_148 ?_
                    refine lv_iload_n hx hb dX13_readLaw_151 rfl (lv_at hl 1 rfl) ?_
                    refine lv_iconst (v := 5) hx hb dX13_readLaw_152 (by decide) ?_
                    refine lv_iadd hx hb dX13_readLaw_153 ?_
                    refine tk_add rfl (show (5 : Int32).toInt = 5 by decide) (by omega) (by omega) (fun v6473 h_v6473 => ?_)
                    refine lv_aload_n hx hb dX13_readLaw_154 rfl (lv_at hl 3 rfl) ?_
                    refine mz_getI hx hb htl hown hK hM 23 (Nat.le_of_ble_eq_true rfl) rfl (htl _ mw_670) (fun _ h9 => h9) dX13_readLaw_155 (fun v9 e9 => ?_)
                    refine fx_ti (v := v6469) (e9.symm.trans hf6468) ?_
                    refine mz_iast (x := v6469) hx hb hK hD hM hS 22 (Nat.le_of_ble_eq_true rfl) rfl (nn := 96) rfl rfl (by omega) (by omega) dX13_readLaw_158 (fun H locs R hM hS hw9 hj9 => ?_)
                    have hIR := hIR.put hw9 hj9 trivial
                    have hL22 : low (8 * gn.toInt.toNat) (Ra 22) (R 22) := fun j hj => by rw [hw9, pk_un (fun h9 => by have h8 := tk_nat (i := v6473) rfl (by omega); omega)]; exact hL22 j hj
                    have h22_0 : R 22 (8 * gn.toInt.toNat + 0) = v1067 := by rw [hw9, pk_un (fun h9 => by have h8 := tk_nat (i := v6473) rfl (by omega); omega)]; exact h22_0
                    have h22_3 : R 22 (8 * gn.toInt.toNat + 3) = gc := by rw [hw9, pk_un (fun h9 => by have h8 := tk_nat (i := v6473) rfl (by omega); omega)]; exact h22_3
                    have h22_4 : R 22 (8 * gn.toInt.toNat + 4) = v6469 := by rw [hw9, pk_un (fun h9 => by have h8 := tk_nat (i := v6473) rfl (by omega); omega)]; exact h22_4
                    have hC9 := hC
                    have hC : v6467.toInt = 0 → CLS 8 [3, 5] (R 24) (R 25) (Ra 22) gc.toInt gn.toInt := fun h9 => (hC9 (by omega)).to (hj9 24 (by decide)) (hj9 25 (by decide))
                    have hX64709 := hX6470
                    have hX6470 : v6467.toInt = 0 → WFX (R 24) (R 25) gc v6469 := fun h9 => by rw [hj9 24 (by decide), hj9 25 (by decide)]; exact hX64709 (by omega)
                    have h22_5 : R 22 (8 * gn.toInt.toNat + 5) = v6469 := by rw [hw9, show 8 * gn.toInt.toNat + 5 = (v6473 : Int32).toNatClampNeg by show _ = v6473.toInt.toNat; omega]; exact pk_us
                    have hRR := mz_frp (K := [22, 24, 25, 27, 28]) (Fa := Ra) hj9 hRR (by decide)
                    refine lv_aload_n hx hb dX13_readLaw_159 rfl (lv_at hl 3 rfl) ?_
                    refine mz_getI hx hb htl hown hK hM 19 (Nat.le_of_ble_eq_true rfl) rfl (htl _ mw_668) (fun _ h9 => h9) dX13_readLaw_160 (fun v9 e9 => ?_)
                    refine fx_ti (v := v6467) (e9.symm.trans hf6466) ?_
                    refine lv_if_ne (tgt := 185) hx hb dX13_readLaw_163 (by decide) (fun c9 => ?_) (fun c9 => ?_)
                    · have hc6475 : ¬ (v6467.toInt = 0) := fun h9 => c9 ((fi_eq rfl (show (0 : Int32).toInt = 0 by decide)).mpr h9)
                      refine lv_aload_n hx hb dX13_readLaw_185 rfl (lv_at hl 3 rfl) ?_
                      refine mz_getR hx hb htl hown hK hM 22 (Nat.le_of_ble_eq_true rfl) (Nat.le_of_ble_eq_true rfl) (htl _ mw_197) (fun _ h9 => h9) dX13_readLaw_186 ?_
                      refine lv_iload_n hx hb dX13_readLaw_189 rfl (lv_at hl 1 rfl) ?_
                      refine lv_bipush (v := 6) hx hb dX13_readLaw_190 (by decide) ?_
                      refine lv_iadd hx hb dX13_readLaw_192 ?_
                      refine tk_add rfl (show (6 : Int32).toInt = 6 by decide) (by omega) (by omega) (fun v6476 h_v6476 => ?_)
                      refine lv_aload_n hx hb dX13_readLaw_193 rfl (lv_at hl 3 rfl) ?_
                      refine mz_getI hx hb htl hown hK hM 23 (Nat.le_of_ble_eq_true rfl) rfl (htl _ mw_670) (fun _ h9 => h9) dX13_readLaw_194 (fun v9 e9 => ?_)
                      refine fx_ti (v := v6469) (e9.symm.trans hf6468) ?_
                      refine mz_iast (x := v6469) hx hb hK hD hM hS 22 (Nat.le_of_ble_eq_true rfl) rfl (nn := 96) rfl rfl (by omega) (by omega) dX13_readLaw_197 (fun H locs R hM hS hw9 hj9 => ?_)
                      have hIR := hIR.put hw9 hj9 trivial
                      have hL22 : low (8 * gn.toInt.toNat) (Ra 22) (R 22) := fun j hj => by rw [hw9, pk_un (fun h9 => by have h8 := tk_nat (i := v6476) rfl (by omega); omega)]; exact hL22 j hj
                      have h22_0 : R 22 (8 * gn.toInt.toNat + 0) = v1067 := by rw [hw9, pk_un (fun h9 => by have h8 := tk_nat (i := v6476) rfl (by omega); omega)]; exact h22_0
                      have h22_3 : R 22 (8 * gn.toInt.toNat + 3) = gc := by rw [hw9, pk_un (fun h9 => by have h8 := tk_nat (i := v6476) rfl (by omega); omega)]; exact h22_3
                      have h22_4 : R 22 (8 * gn.toInt.toNat + 4) = v6469 := by rw [hw9, pk_un (fun h9 => by have h8 := tk_nat (i := v6476) rfl (by omega); omega)]; exact h22_4
                      have h22_5 : R 22 (8 * gn.toInt.toNat + 5) = v6469 := by rw [hw9, pk_un (fun h9 => by have h8 := tk_nat (i := v6476) rfl (by omega); omega)]; exact h22_5
                      have hC9 := hC
                      have hC : v6467.toInt = 0 → CLS 8 [3, 5] (R 24) (R 25) (Ra 22) gc.toInt gn.toInt := fun h9 => (hC9 (by omega)).to (hj9 24 (by decide)) (hj9 25 (by decide))
                      have hX64709 := hX6470
                      have hX6470 : v6467.toInt = 0 → WFX (R 24) (R 25) gc v6469 := fun h9 => by rw [hj9 24 (by decide), hj9 25 (by decide)]; exact hX64709 (by omega)
                      have h22_6 : R 22 (8 * gn.toInt.toNat + 6) = v6469 := by rw [hw9, show 8 * gn.toInt.toNat + 6 = (v6476 : Int32).toNatClampNeg by show _ = v6476.toInt.toNat; omega]; exact pk_us
                      have hRR := mz_frp (K := [22, 24, 25, 27, 28]) (Fa := Ra) hj9 hRR (by decide)
                      exact mz_vret hx hb hr hlocks ⟨hIF, hIG, hIR, hFF, hRR, hGG, (by rw [hf6458, hf6460]; omega), (by rw [hf6460]; omega), (by rw [hf6458, hf6460, hf6462]; omega), (by rw [hf6458, hf6460, hf6462, hf6464]; omega), (by rw [hf6458]; omega), (by rw [hf6468]; omega), (by rw [hf6458, hf6468]; omega), (by rw [hf6466]; omega), (by rw [hf6458, hf6466]; omega), (by rw [hf6466]; exact fun h9 => absurd h9 (by omega))⟩ hM hS dX13_readLaw_198
                    · have hc6475 : v6467.toInt = 0 := (fi_eq rfl (show (0 : Int32).toInt = 0 by decide)).mp c9
                      refine lv_aload_n hx hb dX13_readLaw_166 rfl (lv_at hl 3 rfl) ?_
                      refine lv_ldc2 hx hb hown (htl _ mw_705) dX13_readLaw_167 ?_
                      have hk_294 : (294 : Int64).toInt = 294 := by decide
                      refine mz_Vj (As := [.long 294]) (rest := []) ⟨hx, hb, hml, hown, hts⟩ hK hM hS (k_X13_isWord l D cy ld ad am hD _ _ _ _ 294 v6463 w6465 hIF hIG hIR hf6462 hf6464) ⟨callB_of 1 hts (wl_in mw_709) rfl rfl rfl (htl _ mw_5) (htl _ mw_706) hd_yX13_isWord ⟨(Nat.le_of_ble_eq_true rfl), (Nat.le_of_ble_eq_true rfl)⟩, htl _ mw_707, htl _ mw_708⟩ rfl hl.1 rfl (Nat.le_of_ble_eq_true rfl) dX13_readLaw_170 ⟨(Nat.le_of_ble_eq_true rfl), (Nat.le_of_ble_eq_true rfl)⟩ (fun v6478 H locs hpo hM hS => ?_)
                      obtain ⟨hpo6479, hpo6480, hpo6481, hpo6482, hpo6483⟩ := hpo
                      have hq_v6478 := tk_rng v6478
                      refine lv_if_eq (tgt := 185) hx hb dX13_readLaw_173 (by decide) (fun c9 => ?_) (fun c9 => ?_)
                      · have hc6485 : v6478.toInt = 0 := (fi_eq rfl (show (0 : Int32).toInt = 0 by decide)).mp c9
                        refine lv_aload_n hx hb dX13_readLaw_185 rfl (lv_at hl 3 rfl) ?_
                        refine mz_getR hx hb htl hown hK hM 22 (Nat.le_of_ble_eq_true rfl) (Nat.le_of_ble_eq_true rfl) (htl _ mw_197) (fun _ h9 => h9) dX13_readLaw_186 ?_
                        refine lv_iload_n hx hb dX13_readLaw_189 rfl (lv_at hl 1 rfl) ?_
                        refine lv_bipush (v := 6) hx hb dX13_readLaw_190 (by decide) ?_
                        refine lv_iadd hx hb dX13_readLaw_192 ?_
                        refine tk_add rfl (show (6 : Int32).toInt = 6 by decide) (by omega) (by omega) (fun v6486 h_v6486 => ?_)
                        refine lv_aload_n hx hb dX13_readLaw_193 rfl (lv_at hl 3 rfl) ?_
                        refine mz_getI hx hb htl hown hK hM 23 (Nat.le_of_ble_eq_true rfl) rfl (htl _ mw_670) (fun _ h9 => h9) dX13_readLaw_194 (fun v9 e9 => ?_)
                        refine fx_ti (v := v6469) (e9.symm.trans hf6468) ?_
                        refine mz_iast (x := v6469) hx hb hK hD hM hS 22 (Nat.le_of_ble_eq_true rfl) rfl (nn := 96) rfl rfl (by omega) (by omega) dX13_readLaw_197 (fun H locs R hM hS hw9 hj9 => ?_)
                        have hIR := hIR.put hw9 hj9 trivial
                        have hL22 : low (8 * gn.toInt.toNat) (Ra 22) (R 22) := fun j hj => by rw [hw9, pk_un (fun h9 => by have h8 := tk_nat (i := v6486) rfl (by omega); omega)]; exact hL22 j hj
                        have h22_0 : R 22 (8 * gn.toInt.toNat + 0) = v1067 := by rw [hw9, pk_un (fun h9 => by have h8 := tk_nat (i := v6486) rfl (by omega); omega)]; exact h22_0
                        have h22_3 : R 22 (8 * gn.toInt.toNat + 3) = gc := by rw [hw9, pk_un (fun h9 => by have h8 := tk_nat (i := v6486) rfl (by omega); omega)]; exact h22_3
                        have h22_4 : R 22 (8 * gn.toInt.toNat + 4) = v6469 := by rw [hw9, pk_un (fun h9 => by have h8 := tk_nat (i := v6486) rfl (by omega); omega)]; exact h22_4
                        have h22_5 : R 22 (8 * gn.toInt.toNat + 5) = v6469 := by rw [hw9, pk_un (fun h9 => by have h8 := tk_nat (i := v6486) rfl (by omega); omega)]; exact h22_5
                        have hC9 := hC
                        have hC : v6467.toInt = 0 → CLS 8 [3, 5] (R 24) (R 25) (Ra 22) gc.toInt gn.toInt := fun h9 => (hC9 (by omega)).to (hj9 24 (by decide)) (hj9 25 (by decide))
                        have hX64709 := hX6470
                        have hX6470 : v6467.toInt = 0 → WFX (R 24) (R 25) gc v6469 := fun h9 => by rw [hj9 24 (by decide), hj9 25 (by decide)]; exact hX64709 (by omega)
                        have h22_6 : R 22 (8 * gn.toInt.toNat + 6) = v6469 := by rw [hw9, show 8 * gn.toInt.toNat + 6 = (v6486 : Int32).toNatClampNeg by show _ = v6486.toInt.toNat; omega]; exact pk_us
                        have hRR := mz_frp (K := [22, 24, 25, 27, 28]) (Fa := Ra) hj9 hRR (by decide)
                        exact mz_vret hx hb hr hlocks ⟨hIF, hIG, hIR, hFF, hRR, hGG, (by rw [hf6458, hf6460]; omega), (by rw [hf6460]; omega), (by rw [hf6458, hf6460, hf6462]; omega), (by rw [hf6458, hf6460, hf6462, hf6464]; omega), (by rw [hf6458]; omega), (by rw [hf6468]; omega), (by rw [hf6458, hf6468]; omega), (by rw [hf6466]; omega), (by rw [hf6458, hf6466]; omega), (by rw [hf6466, hf6468, hf6390]; exact fun h9 => mz_snoc (N := gn.toInt.toNat) (hC h9) (by omega) (by omega) hL22 (by decide) (by omega) (by intro d hd; simp only [List.mem_cons, List.not_mem_nil, or_false] at hd; rcases hd with rfl | rfl <;> first | (rw [show 8 * gn.toInt.toNat + 3 + 1 = 8 * gn.toInt.toNat + 4 from rfl, h22_3, h22_4]; exact ⟨hX6470 h9, by omega⟩) | (rw [show 8 * gn.toInt.toNat + 5 + 1 = 8 * gn.toInt.toNat + 6 from rfl, h22_5, h22_6]; exact ⟨WFX.nil (by omega) (by omega), by omega⟩)))⟩ hM hS dX13_readLaw_198
                      · have hc6485 : ¬ (v6478.toInt = 0) := fun h9 => c9 ((fi_eq rfl (show (0 : Int32).toInt = 0 by decide)).mpr h9)
                        have hwk_6488 : w6465.toInt + (-294) = 0 ∧ v6463.toInt + (-1) = 0 := by omega
                        have hwk_6489 : 0 ≤ (-1) * v6459.toInt + v6461.toInt + (-1) := by omega
                        have hwk_6490 : 0 ≤ (-1) * v6459.toInt + v6461.toInt + (-2) := by omega
                        refine lv_aload_n hx hb dX13_readLaw_176 rfl (lv_at hl 3 rfl) ?_
                        refine mz_Vv (As := []) (rest := []) ⟨hx, hb, hml, hown, hts⟩ hK hM hS (k_X13_next l D cy ld ad am hD _ _ _ _ v6461 gp hIF hIG hIR hf6460 hg_3 (by omega)) ⟨callB_of 0 hts (wl_in mw_685) rfl rfl rfl (htl _ mw_5) (htl _ mw_682) hd_yX13_next ⟨(Nat.le_of_ble_eq_true rfl), (Nat.le_of_ble_eq_true rfl)⟩, htl _ mw_683, htl _ mw_684⟩ rfl hl.1 rfl (Nat.le_of_ble_eq_true rfl) dX13_readLaw_177 ⟨(Nat.le_of_ble_eq_true rfl), (Nat.le_of_ble_eq_true rfl)⟩ (fun H locs F G R S hpo hM hS => ?_)
                        obtain ⟨hIF, hIG, hIR, hfr9, hrr9, hgr9, hpo6491, hpo6492, hpo6493, hpo6494, hpo6495⟩ := hpo
                        have hFF := mz_fr (K := [14, 15, 16, 18, 19, 21, 23, 26, 29, 30]) (Fa := Fa) hfr9 hFF (by decide)
                        have hRR := mz_fr (K := [22, 24, 25, 27, 28]) (Fa := Ra) hrr9 hRR (by decide)
                        have hGG := mz_fr (K := [17]) (Fa := Ga) hgr9 hGG (by decide)
                        have hg_3 := (hfr9 13 (by decide)).trans hg_3
                        have hf6390 := (hfr9 21 (by decide)).trans hf6390
                        have hf6466 := (hfr9 19 (by decide)).trans hf6466
                        have hf6468 := (hfr9 23 (by decide)).trans hf6468
                        obtain ⟨v6498, hf6497⟩ : ∃ z : Int32, F 14 = z := ⟨_, rfl⟩
                        have hq_v6498 := tk_rng v6498
                        rw [hf6497] at hpo6491 hpo6492 hpo6494 hpo6495
                        have hr_v6498 : 0 ≤ v6498.toInt ∧ v6498.toInt ≤ 400 := hIF.at hf6497
                        obtain ⟨v6500, hf6499⟩ : ∃ z : Int32, F 15 = z := ⟨_, rfl⟩
                        have hq_v6500 := tk_rng v6500
                        rw [hf6499] at hpo6492 hpo6493 hpo6494 hpo6495
                        have hr_v6500 : 0 ≤ v6500.toInt ∧ v6500.toInt ≤ 400 := hIF.at hf6499
                        obtain ⟨v6502, hf6501⟩ : ∃ z : Int32, F 16 = z := ⟨_, rfl⟩
                        have hq_v6502 := tk_rng v6502
                        rw [hf6501] at hpo6494 hpo6495
                        have hr_v6502 : 0 ≤ v6502.toInt ∧ v6502.toInt ≤ 3 := hIF.at hf6501
                        obtain ⟨w6504, hf6503⟩ : ∃ z : Int64, G 17 = z := ⟨_, rfl⟩
                        have hq_w6504 := tk_rngL w6504
                        rw [hf6503] at hpo6495
                        have hL22 := hL22.to (hrr9 22 (by decide))
                        have h22_0 := (congrFun (hrr9 22 (by decide)) _).trans h22_0
                        have h22_3 := (congrFun (hrr9 22 (by decide)) _).trans h22_3
                        have h22_4 := (congrFun (hrr9 22 (by decide)) _).trans h22_4
                        have h22_5 := (congrFun (hrr9 22 (by decide)) _).trans h22_5
                        have hC9 := hC
                        have hC : v6467.toInt = 0 → CLS 8 [3, 5] (R 24) (R 25) (Ra 22) gc.toInt gn.toInt := fun h9 => (hC9 (by omega)).to (hrr9 24 (by decide)) (hrr9 25 (by decide))
                        have hX64709 := hX6470
                        have hX6470 : v6467.toInt = 0 → WFX (R 24) (R 25) gc v6469 := fun h9 => by rw [hrr9 24 (by decide), hrr9 25 (by decide)]; exact hX64709 (by omega)
                        refine lv_aload_n hx hb dX13_readLaw_180 rfl (lv_at hl 3 rfl) ?_
                        refine lv_iconst (v := 1) hx hb dX13_readLaw_181 (by decide) ?_
                        have hk_1 : (1 : Int32).toInt = 1 := by decide
                        refine mz_Vv (As := [.int 1]) (rest := []) ⟨hx, hb, hml, hown, hts⟩ hK hM hS (k_X13_readExpression l D cy ld ad am hD _ _ _ _ 1 v6498 v6500 v6502 gp w6504 v6467 v6469 hIF hIG hIR hf6497 hf6499 hf6501 hg_3 hf6503 hf6466 hf6468 (by omega) (by omega) (by omega) (by omega) (by omega) (by omega) (by omega) (by omega)) ⟨callB_of 1 hts (wl_in mw_717) rfl rfl rfl (htl _ mw_5) (htl _ mw_714) hd_yX13_readExpression ⟨(Nat.le_of_ble_eq_true rfl), (Nat.le_of_ble_eq_true rfl)⟩, htl _ mw_715, htl _ mw_716⟩ rfl hl.1 rfl (Nat.le_of_ble_eq_true rfl) dX13_readLaw_182 ⟨(Nat.le_of_ble_eq_true rfl), (Nat.le_of_ble_eq_true rfl)⟩ (fun H locs F G R S hpo hM hS => ?_)
                        obtain ⟨hIF, hIG, hIR, hfr9, hrr9, hgr9, hpo6505, hpo6506, hpo6507, hpo6508, hpo6509, hpo6510, hpo6511, hx6512⟩ := hpo
                        have hFF := mz_fr (K := [14, 15, 16, 18, 19, 21, 23, 26, 29, 30]) (Fa := Fa) hfr9 hFF (by decide)
                        have hRR := mz_fr (K := [22, 24, 25, 27, 28]) (Fa := Ra) hrr9 hRR (by decide)
                        have hGG := mz_fr (K := [17]) (Fa := Ga) hgr9 hGG (by decide)
                        have hg_3 := (hfr9 13 (by decide)).trans hg_3
                        have hf6390 := (hfr9 21 (by decide)).trans hf6390
                        obtain ⟨v6515, hf6514⟩ : ∃ z : Int32, F 14 = z := ⟨_, rfl⟩
                        have hq_v6515 := tk_rng v6515
                        rw [hf6514] at hpo6505 hpo6507 hpo6508 hpo6509 hpo6510
                        have hr_v6515 : 0 ≤ v6515.toInt ∧ v6515.toInt ≤ 400 := hIF.at hf6514
                        obtain ⟨v6517, hf6516⟩ : ∃ z : Int32, F 15 = z := ⟨_, rfl⟩
                        have hq_v6517 := tk_rng v6517
                        rw [hf6516] at hpo6505 hpo6506 hpo6507 hpo6508
                        have hr_v6517 : 0 ≤ v6517.toInt ∧ v6517.toInt ≤ 400 := hIF.at hf6516
                        obtain ⟨v6519, hf6518⟩ : ∃ z : Int32, F 16 = z := ⟨_, rfl⟩
                        have hq_v6519 := tk_rng v6519
                        rw [hf6518] at hpo6507 hpo6508
                        have hr_v6519 : 0 ≤ v6519.toInt ∧ v6519.toInt ≤ 3 := hIF.at hf6518
                        obtain ⟨w6521, hf6520⟩ : ∃ z : Int64, G 17 = z := ⟨_, rfl⟩
                        have hq_w6521 := tk_rngL w6521
                        rw [hf6520] at hpo6508
                        obtain ⟨v6523, hf6522⟩ : ∃ z : Int32, F 19 = z := ⟨_, rfl⟩
                        have hq_v6523 := tk_rng v6523
                        have hr_v6523 : 0 ≤ v6523.toInt ∧ v6523.toInt ≤ 1 := hIF.at hf6522
                        obtain ⟨v6525, hf6524⟩ : ∃ z : Int32, F 23 = z := ⟨_, rfl⟩
                        have hq_v6525 := tk_rng v6525
                        rw [hf6524] at hpo6510 hpo6511
                        have hr_v6525 : 0 ≤ v6525.toInt ∧ v6525.toInt ≤ 400 := hIF.at hf6524
                        have hL22 := hL22.to (hrr9 22 (by decide))
                        have h22_0 := (congrFun (hrr9 22 (by decide)) _).trans h22_0
                        have h22_3 := (congrFun (hrr9 22 (by decide)) _).trans h22_3
                        have h22_4 := (congrFun (hrr9 22 (by decide)) _).trans h22_4
                        have h22_5 := (congrFun (hrr9 22 (by decide)) _).trans h22_5
                        have hE9 : v6523.toInt = 0 → WFC (R 24) (R 25) v6469.toInt.toNat v6525.toInt.toNat ∧ low v6469.toInt.toNat _ (R 24) ∧ low v6469.toInt.toNat _ (R 25) := fun h9 => by have h8 := hx6512 (by rw [hf6522]; exact h9); rw [hf6524] at h8; exact h8
                        have hC9 := hC (by omega)
                        have hC : v6523.toInt = 0 → CLS 8 [3, 5] (R 24) (R 25) (Ra 22) gc.toInt gn.toInt := fun h9 => hC9.low (N := v6469.toInt.toNat) (by omega) (hE9 h9).2.1 (hE9 h9).2.2
                        have hX64709 := hX6470 (by omega)
                        have hX6470 : v6523.toInt = 0 → WFX (R 24) (R 25) gc v6469 := fun h9 => hX64709.low (n := v6469.toInt.toNat) (by omega) (hE9 h9).2.1 (hE9 h9).2.2
                        have hX6526 : v6523.toInt = 0 → WFX (R 24) (R 25) v6469 v6525 := fun h9 => ⟨by omega, by omega, by omega, (hE9 h9).1⟩
                        refine lv_aload_n hx hb dX13_readLaw_185 rfl (lv_at hl 3 rfl) ?_
                        refine mz_getR hx hb htl hown hK hM 22 (Nat.le_of_ble_eq_true rfl) (Nat.le_of_ble_eq_true rfl) (htl _ mw_197) (fun _ h9 => h9) dX13_readLaw_186 ?_
                        refine lv_iload_n hx hb dX13_readLaw_189 rfl (lv_at hl 1 rfl) ?_
                        refine lv_bipush (v := 6) hx hb dX13_readLaw_190 (by decide) ?_
                        refine lv_iadd hx hb dX13_readLaw_192 ?_
                        refine tk_add rfl (show (6 : Int32).toInt = 6 by decide) (by omega) (by omega) (fun v6527 h_v6527 => ?_)
                        refine lv_aload_n hx hb dX13_readLaw_193 rfl (lv_at hl 3 rfl) ?_
                        refine mz_getI hx hb htl hown hK hM 23 (Nat.le_of_ble_eq_true rfl) rfl (htl _ mw_670) (fun _ h9 => h9) dX13_readLaw_194 (fun v9 e9 => ?_)
                        refine fx_ti (v := v6525) (e9.symm.trans hf6524) ?_
                        refine mz_iast (x := v6525) hx hb hK hD hM hS 22 (Nat.le_of_ble_eq_true rfl) rfl (nn := 96) rfl rfl (by omega) (by omega) dX13_readLaw_197 (fun H locs R hM hS hw9 hj9 => ?_)
                        have hIR := hIR.put hw9 hj9 trivial
                        have hL22 : low (8 * gn.toInt.toNat) (Ra 22) (R 22) := fun j hj => by rw [hw9, pk_un (fun h9 => by have h8 := tk_nat (i := v6527) rfl (by omega); omega)]; exact hL22 j hj
                        have h22_0 : R 22 (8 * gn.toInt.toNat + 0) = v1067 := by rw [hw9, pk_un (fun h9 => by have h8 := tk_nat (i := v6527) rfl (by omega); omega)]; exact h22_0
                        have h22_3 : R 22 (8 * gn.toInt.toNat + 3) = gc := by rw [hw9, pk_un (fun h9 => by have h8 := tk_nat (i := v6527) rfl (by omega); omega)]; exact h22_3
                        have h22_4 : R 22 (8 * gn.toInt.toNat + 4) = v6469 := by rw [hw9, pk_un (fun h9 => by have h8 := tk_nat (i := v6527) rfl (by omega); omega)]; exact h22_4
                        have h22_5 : R 22 (8 * gn.toInt.toNat + 5) = v6469 := by rw [hw9, pk_un (fun h9 => by have h8 := tk_nat (i := v6527) rfl (by omega); omega)]; exact h22_5
                        have hC9 := hC
                        have hC : v6523.toInt = 0 → CLS 8 [3, 5] (R 24) (R 25) (Ra 22) gc.toInt gn.toInt := fun h9 => (hC9 (by omega)).to (hj9 24 (by decide)) (hj9 25 (by decide))
                        have hX64709 := hX6470
                        have hX6470 : v6523.toInt = 0 → WFX (R 24) (R 25) gc v6469 := fun h9 => by rw [hj9 24 (by decide), hj9 25 (by decide)]; exact hX64709 (by omega)
                        have hX65269 := hX6526
                        have hX6526 : v6523.toInt = 0 → WFX (R 24) (R 25) v6469 v6525 := fun h9 => by rw [hj9 24 (by decide), hj9 25 (by decide)]; exact hX65269 (by omega)
                        have h22_6 : R 22 (8 * gn.toInt.toNat + 6) = v6525 := by rw [hw9, show 8 * gn.toInt.toNat + 6 = (v6527 : Int32).toNatClampNeg by show _ = v6527.toInt.toNat; omega]; exact pk_us
                        have hRR := mz_frp (K := [22, 24, 25, 27, 28]) (Fa := Ra) hj9 hRR (by decide)
                        exact mz_vret hx hb hr hlocks ⟨hIF, hIG, hIR, hFF, hRR, hGG, (by rw [hf6514, hf6516]; omega), (by rw [hf6516]; omega), (by rw [hf6514, hf6516, hf6518]; omega), (by rw [hf6514, hf6516, hf6518, hf6520]; omega), (by rw [hf6514]; omega), (by rw [hf6524]; omega), (by rw [hf6514, hf6524]; omega), (by rw [hf6522]; omega), (by rw [hf6514, hf6522]; omega), (by rw [hf6522, hf6524, hf6390]; exact fun h9 => mz_snoc (N := gn.toInt.toNat) (hC h9) (by omega) (by omega) hL22 (by decide) (by omega) (by intro d hd; simp only [List.mem_cons, List.not_mem_nil, or_false] at hd; rcases hd with rfl | rfl <;> first | (rw [show 8 * gn.toInt.toNat + 3 + 1 = 8 * gn.toInt.toNat + 4 from rfl, h22_3, h22_4]; exact ⟨hX6470 h9, by omega⟩) | (rw [show 8 * gn.toInt.toNat + 5 + 1 = 8 * gn.toInt.toNat + 6 from rfl, h22_5, h22_6]; exact ⟨hX6526 h9, by omega⟩)))⟩ hM hS dX13_readLaw_198
                · have hc6386 : ¬ (8 ≤ v5680.toInt) := fun h9 => c9 ((fi_le (show (8 : Int32).toInt = 8 by decide) rfl).mpr h9)
                  refine lv_aload_n hx hb dX13_readLaw_81 rfl (lv_at hl 3 rfl) ?_
                  refine mz_getR hx hb htl hown hK hM 22 (Nat.le_of_ble_eq_true rfl) (Nat.le_of_ble_eq_true rfl) (htl _ mw_197) (fun _ h9 => h9) dX13_readLaw_82 ?_
                  refine lv_iload_n hx hb dX13_readLaw_85 rfl (lv_at hl 1 rfl) ?_
                  refine lv_iload_n hx hb dX13_readLaw_86 rfl (lv_at hl 0 rfl) ?_
                  refine lv_iadd hx hb dX13_readLaw_87 ?_
                  refine tk_add rfl rfl (by omega) (by omega) (fun v6529 h_v6529 => ?_)
                  refine lv_iconst (v := 0) hx hb dX13_readLaw_88 (by decide) ?_
                  have hk_0 : (0 : Int32).toInt = 0 := by decide
                  refine mz_iast (x := 0) hx hb hK hD hM hS 22 (Nat.le_of_ble_eq_true rfl) rfl (nn := 96) rfl rfl (by omega) (by omega) dX13_readLaw_89 (fun H locs R hM hS hw9 hj9 => ?_)
                  have hIR := hIR.put hw9 hj9 trivial
                  have hL22 : low (8 * gn.toInt.toNat) (Ra 22) (R 22) := fun j hj => by rw [hw9, pk_un (fun h9 => by have h8 := tk_nat (i := v6529) rfl (by omega); omega)]; exact hL22 j hj
                  have hC9 := hC
                  have hC : v5676.toInt = 0 → CLS 8 [3, 5] (R 24) (R 25) (Ra 22) gc.toInt gn.toInt := fun h9 => (hC9 (by omega)).to (hj9 24 (by decide)) (hj9 25 (by decide))
                  have hRR := mz_frp (K := [22, 24, 25, 27, 28]) (Fa := Ra) hj9 hRR (by decide)
                  obtain ⟨v6531, h_v6531, e_v6531⟩ := tk_inc v5680 1 (by decide) (by omega) (by omega)
                  refine lv_iinc (v := v6531) (lv' := [(3, .int v6531), (2, .int v5679), (1, .int v1067), (0, .ref am)]) hx hb dX13_readLaw_90 hl (k := 0) rfl e_v6531 (by decide) rfl (fun ls hl => ?_)
                  refine lv_goto (tgt := 75) hx hb dX13_readLaw_93 (by decide) ?_
                  exact ih_l6385 v6531 _ _ _ (by omega) (by omega) hM hS hIR hRR hL22 hC (by omega) _ (lv_sub hl [0, 1, 2, 3] rfl)
            have hk_0 : (0 : Int32).toInt = 0 := by decide
            exact hl6385 9 0 _ _ _ (by omega) (by omega) hM hS hIR hRR hL22 hC (by omega) _ (lv_sub hl [0, 1, 2, 3] rfl)
      · have hc5611 : ¬ (4 ≤ v1066.toInt) := fun h9 => c9 ((fi_le (show (4 : Int32).toInt = 4 by decide) rfl).mpr h9)
        refine lv_aload_n hx hb dX13_readLaw_9 rfl (lv_at hl 2 rfl) ?_
        refine lv_aload_n hx hb dX13_readLaw_10 rfl (lv_at hl 2 rfl) ?_
        refine mz_getR hx hb htl hown hK hM 33 (Nat.le_of_ble_eq_true rfl) (Nat.le_of_ble_eq_true rfl) (htl _ mw_222) (fun _ h9 => h9) dX13_readLaw_11 ?_
        refine lv_iload_n hx hb dX13_readLaw_14 rfl (lv_at hl 0 rfl) ?_
        refine mz_lald hx hb hK hM 33 (Nat.le_of_ble_eq_true rfl) rfl (nn := 4) rfl rfl (by omega) (by omega) dX13_readLaw_15 (fun w6532 _ => ?_)
        refine mz_Vj (As := [.long w6532]) (rest := []) ⟨hx, hb, hml, hown, hts⟩ hK hM hS (k_X13_isWord l D cy ld ad am hD _ _ _ _ w6532 gs gw hIF hIG hIR hg_2 hg_4) ⟨callB_of 1 hts (wl_in mw_709) rfl rfl rfl (htl _ mw_5) (htl _ mw_706) hd_yX13_isWord ⟨(Nat.le_of_ble_eq_true rfl), (Nat.le_of_ble_eq_true rfl)⟩, htl _ mw_707, htl _ mw_708⟩ rfl hl.1 rfl (Nat.le_of_ble_eq_true rfl) dX13_readLaw_16 ⟨(Nat.le_of_ble_eq_true rfl), (Nat.le_of_ble_eq_true rfl)⟩ (fun v6533 H locs hpo hM hS => ?_)
        obtain ⟨hpo6534, hpo6535, hpo6536, hpo6537, hpo6538⟩ := hpo
        have hq_v6533 := tk_rng v6533
        refine lv_if_eq (tgt := 26) hx hb dX13_readLaw_19 (by decide) (fun c9 => ?_) (fun c9 => ?_)
        · have hc6540 : v6533.toInt = 0 := (fi_eq rfl (show (0 : Int32).toInt = 0 by decide)).mp c9
          refine lv_iload_n hx hb dX13_readLaw_26 rfl (lv_at hl 1 rfl) ?_
          refine lv_istore_n (lv' := [(1, .int v1067), (2, .int v1066), (0, .ref am)]) hx hb dX13_readLaw_27 rfl hl (by decide) rfl (fun ls hl => ?_)
          obtain ⟨v6541, h_v6541, e_v6541⟩ := tk_inc v1066 1 (by decide) (by omega) (by omega)
          refine lv_iinc (v := v6541) (lv' := [(2, .int v6541), (1, .int v1067), (0, .ref am)]) hx hb dX13_readLaw_28 hl (k := 1) rfl e_v6541 (by decide) rfl (fun ls hl => ?_)
          refine lv_goto (tgt := 4) hx hb dX13_readLaw_31 (by decide) ?_
          exact ih_l5610 v6541 v1067 _ _ (by omega) (by omega) (by omega) hM hS (by omega) (by omega) _ (lv_sub hl [0, 1, 2] rfl)
        · have hc6540 : ¬ (v6533.toInt = 0) := fun h9 => c9 ((fi_eq rfl (show (0 : Int32).toInt = 0 by decide)).mpr h9)
          have hwk_6542 : gw.toInt + (-1) * w6532.toInt = 0 ∧ gs.toInt + (-1) = 0 := by omega
          have hwk_6543 : 0 ≤ (-1) * gf.toInt + gt.toInt + (-1) := by omega
          refine lv_iload_n hx hb dX13_readLaw_22 rfl (lv_at hl 0 rfl) ?_
          refine lv_goto (tgt := 27) hx hb dX13_readLaw_23 (by decide) ?_
          refine lv_istore_n (lv' := [(1, .int v1066), (2, .int v1066), (0, .ref am)]) hx hb dX13_readLaw_27 rfl hl (by decide) rfl (fun ls hl => ?_)
          obtain ⟨v6544, h_v6544, e_v6544⟩ := tk_inc v1066 1 (by decide) (by omega) (by omega)
          refine lv_iinc (v := v6544) (lv' := [(2, .int v6544), (1, .int v1066), (0, .ref am)]) hx hb dX13_readLaw_28 hl (k := 1) rfl e_v6544 (by decide) rfl (fun ls hl => ?_)
          refine lv_goto (tgt := 4) hx hb dX13_readLaw_31 (by decide) ?_
          exact ih_l5610 v6544 v1066 _ _ (by omega) (by omega) (by omega) hM hS (by omega) (by omega) _ (lv_sub hl [0, 1, 2] rfl)
  have hk_0 : (0 : Int32).toInt = 0 := by decide
  have hk_m1 : ((-1) : Int32).toInt = (-1) := by decide
  exact hl5610 5 0 (-1) _ _ (by omega) (by omega) (by omega) hM hS (by omega) (by omega) _ (lv_sub hl [0, 1, 2] rfl)
