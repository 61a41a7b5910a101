theorem hd_yX13_readExpression : yX13_readExpression.cls ≠ "java/lang/invoke/MethodHandle" ∧ yX13_readExpression.cls ≠ "java/lang/invoke/VarHandle" ∧ (parseMethodDescriptor yX13_readExpression.desc).map (fun d => d.parameters.length) = some 1 := by decide +kernel
theorem dX13_readLaw_0 : decode cX13_readLaw 0 = .ok (.iconst (-1), 1) := by decide +kernel
theorem dX13_readLaw_1 : decode cX13_readLaw 1 = .ok (.istore_n 1, 1) := by decide +kernel
theorem dX13_readLaw_2 : decode cX13_readLaw 2 = .ok (.iconst 0, 1) := by decide +kernel
theorem dX13_readLaw_3 : decode cX13_readLaw 3 = .ok (.istore_n 2, 1) := by decide +kernel
theorem dX13_readLaw_4 : decode cX13_readLaw 4 = .ok (.iload_n 2, 1) := by decide +kernel
theorem dX13_readLaw_5 : decode cX13_readLaw 5 = .ok (.iconst 4, 1) := by decide +kernel
theorem dX13_readLaw_6 : decode cX13_readLaw 6 = .ok (.if_icmp .ge 28, 3) := by decide +kernel
theorem dX13_readLaw_34 : decode cX13_readLaw 34 = .ok (.aload_n 0, 1) := by decide +kernel
theorem dX13_readLaw_35 : decode cX13_readLaw 35 = .ok (.iload_n 1, 1) := by decide +kernel
theorem dX13_readLaw_36 : decode cX13_readLaw 36 = .ok (.iconst (-1), 1) := by decide +kernel
theorem dX13_readLaw_37 : decode cX13_readLaw 37 = .ok (.if_icmp .eq 16, 3) := by decide +kernel
theorem dX13_readLaw_53 : decode cX13_readLaw 53 = .ok (.iconst 0, 1) := by decide +kernel
theorem dX13_readLaw_54 : decode cX13_readLaw 54 = .ok (.invokevirtual 271, 3) := by decide +kernel
theorem dX13_readLaw_57 : decode cX13_readLaw 57 = .ok (.aload_n 0, 1) := by decide +kernel
theorem dX13_readLaw_58 : decode cX13_readLaw 58 = .ok (.getfield 236, 3) := by decide +kernel
theorem dX13_readLaw_61 : decode cX13_readLaw 61 = .ok (.ifCond .eq 4, 3) := by decide +kernel
theorem dX13_readLaw_64 : decode cX13_readLaw 64 = .ok (.return_, 1) := by decide +kernel
theorem dX13_readLaw_40 : decode cX13_readLaw 40 = .ok (.aload_n 0, 1) := by decide +kernel
theorem dX13_readLaw_41 : decode cX13_readLaw 41 = .ok (.getfield 369, 3) := by decide +kernel
theorem dX13_readLaw_44 : decode cX13_readLaw 44 = .ok (.bipush 12, 2) := by decide +kernel
theorem dX13_readLaw_46 : decode cX13_readLaw 46 = .ok (.if_icmp .ge 7, 3) := by decide +kernel
theorem dX13_readLaw_49 : decode cX13_readLaw 49 = .ok (.iconst 1, 1) := by decide +kernel
theorem dX13_readLaw_50 : decode cX13_readLaw 50 = .ok (.goto 4, 3) := by decide +kernel
theorem dX13_readLaw_65 : decode cX13_readLaw 65 = .ok (.bipush 8, 2) := by decide +kernel
theorem dX13_readLaw_67 : decode cX13_readLaw 67 = .ok (.aload_n 0, 1) := by decide +kernel
theorem dX13_readLaw_68 : decode cX13_readLaw 68 = .ok (.getfield 369, 3) := by decide +kernel
theorem dX13_readLaw_71 : decode cX13_readLaw 71 = .ok (.imul, 1) := by decide +kernel
theorem dX13_readLaw_72 : decode cX13_readLaw 72 = .ok (.istore_n 2, 1) := by decide +kernel
theorem dX13_readLaw_73 : decode cX13_readLaw 73 = .ok (.iconst 0, 1) := by decide +kernel
theorem dX13_readLaw_74 : decode cX13_readLaw 74 = .ok (.istore_n 3, 1) := by decide +kernel
theorem dX13_readLaw_75 : decode cX13_readLaw 75 = .ok (.iload_n 3, 1) := by decide +kernel
theorem dX13_readLaw_76 : decode cX13_readLaw 76 = .ok (.bipush 8, 2) := by decide +kernel
theorem dX13_readLaw_78 : decode cX13_readLaw 78 = .ok (.if_icmp .ge 18, 3) := by decide +kernel
theorem dX13_readLaw_96 : decode cX13_readLaw 96 = .ok (.aload_n 0, 1) := by decide +kernel
theorem dX13_readLaw_97 : decode cX13_readLaw 97 = .ok (.getfield 42, 3) := by decide +kernel
theorem dX13_readLaw_100 : decode cX13_readLaw 100 = .ok (.iload_n 2, 1) := by decide +kernel
theorem dX13_readLaw_101 : decode cX13_readLaw 101 = .ok (.iload_n 1, 1) := by decide +kernel
theorem dX13_readLaw_102 : decode cX13_readLaw 102 = .ok (.iastore, 1) := by decide +kernel
theorem dX13_readLaw_103 : decode cX13_readLaw 103 = .ok (.aload_n 0, 1) := by decide +kernel
theorem dX13_readLaw_104 : decode cX13_readLaw 104 = .ok (.dup, 1) := by decide +kernel
theorem dX13_readLaw_105 : decode cX13_readLaw 105 = .ok (.getfield 369, 3) := by decide +kernel
theorem dX13_readLaw_108 : decode cX13_readLaw 108 = .ok (.iconst 1, 1) := by decide +kernel
theorem dX13_readLaw_109 : decode cX13_readLaw 109 = .ok (.iadd, 1) := by decide +kernel
theorem dX13_readLaw_110 : decode cX13_readLaw 110 = .ok (.putfield 369, 3) := by decide +kernel
theorem dX13_readLaw_113 : decode cX13_readLaw 113 = .ok (.aload_n 0, 1) := by decide +kernel
theorem dX13_readLaw_114 : decode cX13_readLaw 114 = .ok (.getfield 42, 3) := by decide +kernel
theorem dX13_readLaw_117 : decode cX13_readLaw 117 = .ok (.iload_n 2, 1) := by decide +kernel
theorem dX13_readLaw_118 : decode cX13_readLaw 118 = .ok (.iconst 3, 1) := by decide +kernel
theorem dX13_readLaw_119 : decode cX13_readLaw 119 = .ok (.iadd, 1) := by decide +kernel
theorem dX13_readLaw_120 : decode cX13_readLaw 120 = .ok (.aload_n 0, 1) := by decide +kernel
theorem dX13_readLaw_121 : decode cX13_readLaw 121 = .ok (.getfield 275, 3) := by decide +kernel
theorem dX13_readLaw_124 : decode cX13_readLaw 124 = .ok (.iastore, 1) := by decide +kernel
theorem dX13_readLaw_125 : decode cX13_readLaw 125 = .ok (.iload_n 1, 1) := by decide +kernel
theorem dX13_readLaw_126 : decode cX13_readLaw 126 = .ok (.iconst 3, 1) := by decide +kernel
theorem dX13_readLaw_127 : decode cX13_readLaw 127 = .ok (.if_icmp .eq 8, 3) := by decide +kernel
theorem dX13_readLaw_135 : decode cX13_readLaw 135 = .ok (.aload_n 0, 1) := by decide +kernel
theorem dX13_readLaw_136 : decode cX13_readLaw 136 = .ok (.getfield 42, 3) := by decide +kernel
theorem dX13_readLaw_139 : decode cX13_readLaw 139 = .ok (.iload_n 2, 1) := by decide +kernel
theorem dX13_readLaw_140 : decode cX13_readLaw 140 = .ok (.iconst 4, 1) := by decide +kernel
theorem dX13_readLaw_141 : decode cX13_readLaw 141 = .ok (.iadd, 1) := by decide +kernel
theorem dX13_readLaw_142 : decode cX13_readLaw 142 = .ok (.aload_n 0, 1) := by decide +kernel
theorem dX13_readLaw_143 : decode cX13_readLaw 143 = .ok (.getfield 275, 3) := by decide +kernel
theorem dX13_readLaw_146 : decode cX13_readLaw 146 = .ok (.iastore, 1) := by decide +kernel
theorem dX13_readLaw_147 : decode cX13_readLaw 147 = .ok (.aload_n 0, 1) := by decide +kernel
theorem dX13_readLaw_148 : decode cX13_readLaw 148 = .ok (.getfield 42, 3) := by decide +kernel
theorem dX13_readLaw_151 : decode cX13_readLaw 151 = .ok (.iload_n 2, 1) := by decide +kernel
theorem dX13_readLaw_152 : decode cX13_readLaw 152 = .ok (.iconst 5, 1) := by decide +kernel
theorem dX13_readLaw_153 : decode cX13_readLaw 153 = .ok (.iadd, 1) := by decide +kernel
theorem dX13_readLaw_154 : decode cX13_readLaw 154 = .ok (.aload_n 0, 1) := by decide +kernel
theorem dX13_readLaw_155 : decode cX13_readLaw 155 = .ok (.getfield 275, 3) := by decide +kernel
theorem dX13_readLaw_158 : decode cX13_readLaw 158 = .ok (.iastore, 1) := by decide +kernel
theorem dX13_readLaw_159 : decode cX13_readLaw 159 = .ok (.aload_n 0, 1) := by decide +kernel
theorem dX13_readLaw_160 : decode cX13_readLaw 160 = .ok (.getfield 236, 3) := by decide +kernel
theorem dX13_readLaw_163 : decode cX13_readLaw 163 = .ok (.ifCond .ne 22, 3) := by decide +kernel
theorem dX13_readLaw_166 : decode cX13_readLaw 166 = .ok (.aload_n 0, 1) := by decide +kernel
theorem dX13_readLaw_167 : decode cX13_readLaw 167 = .ok (.ldc2_w 375, 3) := by decide +kernel
theorem dX13_readLaw_170 : decode cX13_readLaw 170 = .ok (.invokevirtual 296, 3) := by decide +kernel
theorem dX13_readLaw_173 : decode cX13_readLaw 173 = .ok (.ifCond .eq 12, 3) := by decide +kernel
theorem dX13_readLaw_185 : decode cX13_readLaw 185 = .ok (.aload_n 0, 1) := by decide +kernel
theorem dX13_readLaw_186 : decode cX13_readLaw 186 = .ok (.getfield 42, 3) := by decide +kernel
theorem dX13_readLaw_189 : decode cX13_readLaw 189 = .ok (.iload_n 2, 1) := by decide +kernel
theorem dX13_readLaw_190 : decode cX13_readLaw 190 = .ok (.bipush 6, 2) := by decide +kernel
theorem dX13_readLaw_192 : decode cX13_readLaw 192 = .ok (.iadd, 1) := by decide +kernel
theorem dX13_readLaw_193 : decode cX13_readLaw 193 = .ok (.aload_n 0, 1) := by decide +kernel
theorem dX13_readLaw_194 : decode cX13_readLaw 194 = .ok (.getfield 275, 3) := by decide +kernel
theorem dX13_readLaw_197 : decode cX13_readLaw 197 = .ok (.iastore, 1) := by decide +kernel
theorem dX13_readLaw_198 : decode cX13_readLaw 198 = .ok (.return_, 1) := by decide +kernel
theorem dX13_readLaw_176 : decode cX13_readLaw 176 = .ok (.aload_n 0, 1) := by decide +kernel
theorem dX13_readLaw_177 : decode cX13_readLaw 177 = .ok (.invokevirtual 240, 3) := by decide +kernel
theorem dX13_readLaw_180 : decode cX13_readLaw 180 = .ok (.aload_n 0, 1) := by decide +kernel
theorem dX13_readLaw_181 : decode cX13_readLaw 181 = .ok (.iconst 1, 1) := by decide +kernel
theorem dX13_readLaw_182 : decode cX13_readLaw 182 = .ok (.invokevirtual 372, 3) := by decide +kernel
theorem dX13_readLaw_130 : decode cX13_readLaw 130 = .ok (.aload_n 0, 1) := by decide +kernel
theorem dX13_readLaw_131 : decode cX13_readLaw 131 = .ok (.iconst 0, 1) := by decide +kernel
theorem dX13_readLaw_132 : decode cX13_readLaw 132 = .ok (.invokevirtual 372, 3) := by decide +kernel
theorem dX13_readLaw_81 : decode cX13_readLaw 81 = .ok (.aload_n 0, 1) := by decide +kernel
theorem dX13_readLaw_82 : decode cX13_readLaw 82 = .ok (.getfield 42, 3) := by decide +kernel
theorem dX13_readLaw_85 : decode cX13_readLaw 85 = .ok (.iload_n 2, 1) := by decide +kernel
theorem dX13_readLaw_86 : decode cX13_readLaw 86 = .ok (.iload_n 3, 1) := by decide +kernel
theorem dX13_readLaw_87 : decode cX13_readLaw 87 = .ok (.iadd, 1) := by decide +kernel
theorem dX13_readLaw_88 : decode cX13_readLaw 88 = .ok (.iconst 0, 1) := by decide +kernel
theorem dX13_readLaw_89 : decode cX13_readLaw 89 = .ok (.iastore, 1) := by decide +kernel
theorem dX13_readLaw_90 : decode cX13_readLaw 90 = .ok (.iinc 3 1, 3) := by decide +kernel
theorem dX13_readLaw_93 : decode cX13_readLaw 93 = .ok (.goto (-18), 3) := by decide +kernel
theorem dX13_readLaw_9 : decode cX13_readLaw 9 = .ok (.aload_n 0, 1) := by decide +kernel
theorem dX13_readLaw_10 : decode cX13_readLaw 10 = .ok (.aload_n 0, 1) := by decide +kernel
theorem dX13_readLaw_11 : decode cX13_readLaw 11 = .ok (.getfield 98, 3) := by decide +kernel
theorem dX13_readLaw_14 : decode cX13_readLaw 14 = .ok (.iload_n 2, 1) := by decide +kernel
theorem dX13_readLaw_15 : decode cX13_readLaw 15 = .ok (.laload, 1) := by decide +kernel
theorem dX13_readLaw_16 : decode cX13_readLaw 16 = .ok (.invokevirtual 296, 3) := by decide +kernel
theorem dX13_readLaw_19 : decode cX13_readLaw 19 = .ok (.ifCond .eq 7, 3) := by decide +kernel
theorem dX13_readLaw_26 : decode cX13_readLaw 26 = .ok (.iload_n 1, 1) := by decide +kernel
theorem dX13_readLaw_27 : decode cX13_readLaw 27 = .ok (.istore_n 1, 1) := by decide +kernel
theorem dX13_readLaw_28 : decode cX13_readLaw 28 = .ok (.iinc 2 1, 3) := by decide +kernel
theorem dX13_readLaw_31 : decode cX13_readLaw 31 = .ok (.goto (-27), 3) := by decide +kernel
theorem dX13_readLaw_22 : decode cX13_readLaw 22 = .ok (.iload_n 2, 1) := by decide +kernel
theorem dX13_readLaw_23 : decode cX13_readLaw 23 = .ok (.goto 4, 3) := by decide +kernel
set_option maxHeartbeats 4000000 in
set_option maxRecDepth 100000 in
theorem k_X13_readLaw (l : Launch) (D : va_G) (cy : Nat → ClassId) (ld ad : Nat → Nat) (am : Nat) (hD : mz_D ad am) (Fa : Nat → Int32) (Ga : Nat → Int64) (Ra : Nat → Nat → Int32) (Sa : Nat → Nat → Int64) (gf : Int32) (gt : Int32) (gs : Int32) (gp : Int32) (gw : Int64) (gb : Int32) (gc : Int32) (gn : Int32) (hIF : mz_IF false Fa) (hIG : mz_IG Ga) (hIR : mz_IR [] true Ra) (hg_0 : Fa 14 = gf) (hg_1 : Fa 15 = gt) (hg_2 : Fa 16 = gs) (hg_3 : Fa 13 = gp) (hg_4 : Ga 17 = gw) (hg_5 : Fa 19 = gb) (hg_6 : Fa 23 = gc) (hg_7 : Fa 21 = gn) (hp_0 : 0 ≤ (-1) * gf.toInt + gt.toInt) (hp_1 : 0 ≤ gp.toInt + (-1) * gt.toInt) (hp_2 : (1 ≤ gs.toInt → 0 ≤ (-1) * gf.toInt + gt.toInt + (-1))) (hp_3 : (27 ≤ gw.toInt → 1 ≤ gs.toInt → gs.toInt ≤ 1 → 0 ≤ (-1) * gf.toInt + gt.toInt + (-2))) (hp_4 : 0 ≤ (-1) * gc.toInt + gf.toInt) (hp_5 : gb.toInt ≤ 0) (hx_0 : CLS 8 [3, 5] (Ra 24) (Ra 25) (Ra 22) gc.toInt gn.toInt) : Met l yX13_readLaw (wl yX13_readLaw cX13_readLaw 4 none) ({ frames := 10, cells := 0, slots := 0, locals := 630 }) (mz_p D cy ld ad am Fa Ga Ra Sa [.ref am]) (mz_w D cy ad am (fun F G R S => mz_IF false F ∧ mz_IG G ∧ mz_IR [] true R ∧ (∀ k : Nat, k ∉ ([14, 15, 16, 18, 19, 21, 23, 26, 29, 30] : List Nat) → F k = Fa k) ∧ (∀ k : Nat, k ∉ ([22, 24, 25, 27, 28] : List Nat) → R k = Ra k) ∧ (∀ k : Nat, k ∉ ([17] : List Nat) → G k = Ga k) ∧ 0 ≤ (-1) * (F 14).toInt + (F 15).toInt ∧ 0 ≤ gp.toInt + (-1) * (F 15).toInt ∧ (1 ≤ (F 16).toInt → 0 ≤ (-1) * (F 14).toInt + (F 15).toInt + (-1)) ∧ (27 ≤ (G 17).toInt → 1 ≤ (F 16).toInt → (F 16).toInt ≤ 1 → 0 ≤ (-1) * (F 14).toInt + (F 15).toInt + (-2)) ∧ 0 ≤ (-1) * gf.toInt + (F 14).toInt ∧ 0 ≤ (-1) * gc.toInt + (F 23).toInt ∧ 0 ≤ (-1) * (F 23).toInt + (F 14).toInt ∧ 0 ≤ (-1) * gb.toInt + (F 19).toInt ∧ ((F 19).toInt ≤ 0 → 0 ≤ (-1) * gf.toInt + (F 14).toInt + (-1)) ∧ ((F 19).toInt = 0 → CLS 8 [3, 5] (R 24) (R 25) (R 22) (F 23).toInt (F 21).toInt))) 0 0 (mz_W ad am) := by
  refine mz_met (y := yX13_readLaw) (cc := cX13_readLaw) (maxL := 4) (ret := none) (av := [.ref am]) _ (by decide) (Nat.le_of_ble_eq_true rfl) ?_
  intro p e s m args below meth c hx hb hr hml hts htl hown hlocks hK H locs hM hS ls hl
  have hown : s.vm.findClass RX13 = some m.cls := hown
  have hl : lv_has ls 4 [(0, .ref am)] := hl
  have hq_gf := tk_rng gf
  have hq_gt := tk_rng gt
  have hq_gs := tk_rng gs
  have hq_gp := tk_rng gp
  have hq_gw := tk_rngL gw
  have hq_gb := tk_rng gb
  have hq_gc := tk_rng gc
  have hq_gn := tk_rng gn
  have hr_gf : 0 ≤ gf.toInt ∧ gf.toInt ≤ 400 := hIF.at hg_0
  have hr_gt : 0 ≤ gt.toInt ∧ gt.toInt ≤ 400 := hIF.at hg_1
  have hr_gs : 0 ≤ gs.toInt ∧ gs.toInt ≤ 3 := hIF.at hg_2
  have hr_gp : 0 ≤ gp.toInt ∧ gp.toInt ≤ 400 := hIF.at hg_3
  have hr_gb : 0 ≤ gb.toInt ∧ gb.toInt ≤ 1 := hIF.at hg_5
  have hr_gc : 0 ≤ gc.toInt ∧ gc.toInt ≤ 400 := hIF.at hg_6
  have hr_gn : 0 ≤ gn.toInt ∧ gn.toInt ≤ 12 := hIF.at hg_7
  have hL22 := low.refl (8 * gn.toInt.toNat) (Ra 22)
  have hC : gb.toInt = 0 → CLS 8 [3, 5] (Ra 24) (Ra 25) (Ra 22) gc.toInt gn.toInt := fun _ => hx_0
  refine lv_iconst (v := (-1)) hx hb dX13_readLaw_0 (by decide) ?_
  refine lv_istore_n (lv' := [(1, .int (-1)), (0, .ref am)]) hx hb dX13_readLaw_1 rfl hl (by decide) rfl (fun ls hl => ?_)
  refine lv_iconst (v := 0) hx hb dX13_readLaw_2 (by decide) ?_
  refine lv_istore_n (lv' := [(2, .int 0), (1, .int (-1)), (0, .ref am)]) hx hb dX13_readLaw_3 rfl hl (by decide) rfl (fun ls hl => ?_)
  have hl7989 : ∀ (N_l7989 : Nat) (v1066 : Int32) (v1067 : Int32) (H : Heap) (locs : List Loc), (v1066.toInt ≤ 4) → (0 ≤ v1066.toInt + (-1) * v1067.toInt + (-1)) → ((-1) ≤ v1067.toInt) → (mz_S D cy ad am Fa Ga Ra Sa H) → (va_S (mz_W ad am) s.heap H locs) → ((0 ≤ v1067.toInt → gs.toInt + (-1) = 0)) → ((-1) * v1066.toInt + 4 < (N_l7989 : Int)) → ∀ ls : Array Slot, lv_has ls 4 [(2, .int v1066), (1, .int v1067), (0, .ref am)] → W p l e ({ frames := 10, cells := 0, slots := 0, locals := 630 }) s m args below meth c H locs 0 0 (MQ below (mz_w D cy ad am (fun F G R S => mz_IF false F ∧ mz_IG G ∧ mz_IR [] true R ∧ (∀ k : Nat, k ∉ ([14, 15, 16, 18, 19, 21, 23, 26, 29, 30] : List Nat) → F k = Fa k) ∧ (∀ k : Nat, k ∉ ([22, 24, 25, 27, 28] : List Nat) → R k = Ra k) ∧ (∀ k : Nat, k ∉ ([17] : List Nat) → G k = Ga k) ∧ 0 ≤ (-1) * (F 14).toInt + (F 15).toInt ∧ 0 ≤ gp.toInt + (-1) * (F 15).toInt ∧ (1 ≤ (F 16).toInt → 0 ≤ (-1) * (F 14).toInt + (F 15).toInt + (-1)) ∧ (27 ≤ (G 17).toInt → 1 ≤ (F 16).toInt → (F 16).toInt ≤ 1 → 0 ≤ (-1) * (F 14).toInt + (F 15).toInt + (-2)) ∧ 0 ≤ (-1) * gf.toInt + (F 14).toInt ∧ 0 ≤ (-1) * gc.toInt + (F 23).toInt ∧ 0 ≤ (-1) * (F 23).toInt + (F 14).toInt ∧ 0 ≤ (-1) * gb.toInt + (F 19).toInt ∧ ((F 19).toInt ≤ 0 → 0 ≤ (-1) * gf.toInt + (F 14).toInt + (-1)) ∧ ((F 19).toInt = 0 → CLS 8 [3, 5] (R 24) (R 25) (R 22) (F 23).toInt (F 21).toInt))) args s 0 0 (mz_W ad am)) (F0 m 4 ls []) := by
    intro N_l7989
    induction N_l7989 with
    | zero => intro v1066 v1067 H locs hq0_l7989 hq1_l7989 hq2_l7989 hM hS hc0_l7989 hm_l7989 ls hl; exfalso; omega
    | succ N_l7989 ih_l7989 =>
      intro v1066 v1067 H locs hq0_l7989 hq1_l7989 hq2_l7989 hM hS hc0_l7989 hm_l7989 ls hl
      refine lv_iload_n hx hb dX13_readLaw_4 rfl (lv_at hl 0 rfl) ?_
      refine lv_iconst (v := 4) hx hb dX13_readLaw_5 (by decide) ?_
      refine lv_icmp_ge (tgt := 34) hx hb dX13_readLaw_6 (by decide) (fun c9 => ?_) (fun c9 => ?_)
      · have hc7990 : 4 ≤ v1066.toInt := (fi_le (show (4 : Int32).toInt = 4 by decide) rfl).mp c9
        refine lv_aload_n hx hb dX13_readLaw_34 rfl (lv_at hl 2 rfl) ?_
        refine lv_iload_n hx hb dX13_readLaw_35 rfl (lv_at hl 1 rfl) ?_
        refine lv_iconst (v := (-1)) hx hb dX13_readLaw_36 (by decide) ?_
        refine lv_icmp_eq (tgt := 53) hx hb dX13_readLaw_37 (by decide) (fun c9 => ?_) (fun c9 => ?_)
        · have hc7991 : v1067.toInt = (-1) := (fi_eq rfl (show ((-1) : Int32).toInt = (-1) by decide)).mp c9
          refine lv_iconst (v := 0) hx hb dX13_readLaw_53 (by decide) ?_
          have hk_0 : (0 : Int32).toInt = 0 := by decide
          refine mz_Vv (As := [.int 0]) (rest := []) ⟨hx, hb, hml, hown, hts⟩ hK hM hS (k_X13_must l D cy ld ad am hD _ _ _ _ 0 gf gt gs gp gw gb hIF hIG hIR hg_0 hg_1 hg_2 hg_3 hg_4 hg_5 (by omega) (by omega) (by omega) (by omega) (by omega) (by omega)) ⟨callB_of 1 hts (wl_in mw_713) rfl rfl rfl (htl _ mw_5) (htl _ mw_710) hd_yX13_must ⟨(Nat.le_of_ble_eq_true rfl), (Nat.le_of_ble_eq_true rfl)⟩, htl _ mw_711, htl _ mw_712⟩ rfl hl.1 rfl (Nat.le_of_ble_eq_true rfl) dX13_readLaw_54 ⟨(Nat.le_of_ble_eq_true rfl), (Nat.le_of_ble_eq_true rfl)⟩ (fun H locs F G R S hpo hM hS => ?_)
          obtain ⟨hIF, hIG, hIR, hfr9, hrr9, hgr9, hpo7992, hpo7993, hpo7994, hpo7995, hpo7996, hpo7997, hpo7998, hpo7999⟩ := hpo
          have hFF := mz_fr (K := [14, 15, 16, 18, 19, 21, 23, 26, 29, 30]) (Fa := Fa) hfr9 (fun _ _ => rfl) (by decide)
          have hRR := mz_fr (K := [22, 24, 25, 27, 28]) (Fa := Ra) hrr9 (fun _ _ => rfl) (by decide)
          have hGG := mz_fr (K := [17]) (Fa := Ga) hgr9 (fun _ _ => rfl) (by decide)
          have hg_3 := (hfr9 13 (by decide)).trans hg_3
          have hg_6 := (hfr9 23 (by decide)).trans hg_6
          have hg_7 := (hfr9 21 (by decide)).trans hg_7
          obtain ⟨v8002, hf8001⟩ : ∃ z : Int32, F 14 = z := ⟨_, rfl⟩
          have hq_v8002 := tk_rng v8002
          rw [hf8001] at hpo7992 hpo7994 hpo7995 hpo7996 hpo7998
          have hr_v8002 : 0 ≤ v8002.toInt ∧ v8002.toInt ≤ 400 := hIF.at hf8001
          obtain ⟨v8004, hf8003⟩ : ∃ z : Int32, F 15 = z := ⟨_, rfl⟩
          have hq_v8004 := tk_rng v8004
          rw [hf8003] at hpo7992 hpo7993 hpo7994 hpo7995
          have hr_v8004 : 0 ≤ v8004.toInt ∧ v8004.toInt ≤ 400 := hIF.at hf8003
          obtain ⟨v8006, hf8005⟩ : ∃ z : Int32, F 16 = z := ⟨_, rfl⟩
          have hq_v8006 := tk_rng v8006
          rw [hf8005] at hpo7994 hpo7995
          have hr_v8006 : 0 ≤ v8006.toInt ∧ v8006.toInt ≤ 3 := hIF.at hf8005
          obtain ⟨w8008, hf8007⟩ : ∃ z : Int64, G 17 = z := ⟨_, rfl⟩
          have hq_w8008 := tk_rngL w8008
          rw [hf8007] at hpo7995
          obtain ⟨v8010, hf8009⟩ : ∃ z : Int32, F 19 = z := ⟨_, rfl⟩
          have hq_v8010 := tk_rng v8010
          rw [hf8009] at hpo7997 hpo7998 hpo7999
          have hr_v8010 : 0 ≤ v8010.toInt ∧ v8010.toInt ≤ 1 := hIF.at hf8009
          have hL22 := hL22.to (hrr9 22 (by decide))
          have hC9 := hC
          have hC : v8010.toInt = 0 → CLS 8 [3, 5] (R 24) (R 25) (Ra 22) gc.toInt gn.toInt := fun h9 => (hC9 (by omega)).to (hrr9 24 (by decide)) (hrr9 25 (by decide))
          refine lv_aload_n hx hb dX13_readLaw_57 rfl (lv_at hl 2 rfl) ?_
          refine mz_getI hx hb htl hown hK hM 19 (Nat.le_of_ble_eq_true rfl) rfl (htl _ mw_668) (fun _ h9 => h9) dX13_readLaw_58 (fun v9 e9 => ?_)
          refine fx_ti (v := v8010) (e9.symm.trans hf8009) ?_
          refine lv_if_eq (tgt := 65) hx hb dX13_readLaw_61 (by decide) (fun c9 => ?_) (fun c9 => ?_)
          · have hc8011 : v8010.toInt = 0 := (fi_eq rfl (show (0 : Int32).toInt = 0 by decide)).mp c9
            exfalso
            omega
          · have hc8011 : ¬ (v8010.toInt = 0) := fun h9 => c9 ((fi_eq rfl (show (0 : Int32).toInt = 0 by decide)).mpr h9)
            exact mz_vret hx hb hr hlocks ⟨hIF, hIG, hIR, hFF, hRR, hGG, (by rw [hf8001, hf8003]; omega), (by rw [hf8003]; omega), (by rw [hf8001, hf8003, hf8005]; omega), (by rw [hf8001, hf8003, hf8005, hf8007]; omega), (by rw [hf8001]; omega), (by rw [hg_6]; omega), (by rw [hf8001, hg_6]; omega), (by rw [hf8009]; omega), (by rw [hf8001, hf8009]; omega), (by rw [hf8009]; exact fun h9 => absurd h9 (by omega))⟩ hM hS dX13_readLaw_64
        · have hc7991 : ¬ (v1067.toInt = (-1)) := fun h9 => c9 ((fi_eq rfl (show ((-1) : Int32).toInt = (-1) by decide)).mpr h9)
          refine lv_aload_n hx hb dX13_readLaw_40 rfl (lv_at hl 2 rfl) ?_
          refine mz_getI hx hb htl hown hK hM 21 (Nat.le_of_ble_eq_true rfl) rfl (htl _ mw_669) (fun _ h9 => h9) dX13_readLaw_41 (fun v9 e9 => ?_)
          refine fx_ti (v := gn) (e9.symm.trans hg_7) ?_
          refine lv_bipush (v := 12) hx hb dX13_readLaw_44 (by decide) ?_
          refine lv_icmp_ge (tgt := 53) hx hb dX13_readLaw_46 (by decide) (fun c9 => ?_) (fun c9 => ?_)
          · have hc8012 : 12 ≤ gn.toInt := (fi_le (show (12 : Int32).toInt = 12 by decide) rfl).mp c9
            refine lv_iconst (v := 0) hx hb dX13_readLaw_53 (by decide) ?_
            have hk_0 : (0 : Int32).toInt = 0 := by decide
            refine mz_Vv (As := [.int 0]) (rest := []) ⟨hx, hb, hml, hown, hts⟩ hK hM hS (k_X13_must l D cy ld ad am hD _ _ _ _ 0 gf gt gs gp gw gb hIF hIG hIR hg_0 hg_1 hg_2 hg_3 hg_4 hg_5 (by omega) (by omega) (by omega) (by omega) (by omega) (by omega)) ⟨callB_of 1 hts (wl_in mw_713) rfl rfl rfl (htl _ mw_5) (htl _ mw_710) hd_yX13_must ⟨(Nat.le_of_ble_eq_true rfl), (Nat.le_of_ble_eq_true rfl)⟩, htl _ mw_711, htl _ mw_712⟩ rfl hl.1 rfl (Nat.le_of_ble_eq_true rfl) dX13_readLaw_54 ⟨(Nat.le_of_ble_eq_true rfl), (Nat.le_of_ble_eq_true rfl)⟩ (fun H locs F G R S hpo hM hS => ?_)
            obtain ⟨hIF, hIG, hIR, hfr9, hrr9, hgr9, hpo8013, hpo8014, hpo8015, hpo8016, hpo8017, hpo8018, hpo8019, hpo8020⟩ := hpo
            have hFF := mz_fr (K := [14, 15, 16, 18, 19, 21, 23, 26, 29, 30]) (Fa := Fa) hfr9 (fun _ _ => rfl) (by decide)
            have hRR := mz_fr (K := [22, 24, 25, 27, 28]) (Fa := Ra) hrr9 (fun _ _ => rfl) (by decide)
            have hGG := mz_fr (K := [17]) (Fa := Ga) hgr9 (fun _ _ => rfl) (by decide)
            have hg_3 := (hfr9 13 (by decide)).trans hg_3
            have hg_6 := (hfr9 23 (by decide)).trans hg_6
            have hg_7 := (hfr9 21 (by decide)).trans hg_7
            obtain ⟨v8023, hf8022⟩ : ∃ z : Int32, F 14 = z := ⟨_, rfl⟩
            have hq_v8023 := tk_rng v8023
            rw [hf8022] at hpo8013 hpo8015 hpo8016 hpo8017 hpo8019
            have hr_v8023 : 0 ≤ v8023.toInt ∧ v8023.toInt ≤ 400 := hIF.at hf8022
            obtain ⟨v8025, hf8024⟩ : ∃ z : Int32, F 15 = z := ⟨_, rfl⟩
            have hq_v8025 := tk_rng v8025
            rw [hf8024] at hpo8013 hpo8014 hpo8015 hpo8016
            have hr_v8025 : 0 ≤ v8025.toInt ∧ v8025.toInt ≤ 400 := hIF.at hf8024
            obtain ⟨v8027, hf8026⟩ : ∃ z : Int32, F 16 = z := ⟨_, rfl⟩
            have hq_v8027 := tk_rng v8027
            rw [hf8026] at hpo8015 hpo8016
            have hr_v8027 : 0 ≤ v8027.toInt ∧ v8027.toInt ≤ 3 := hIF.at hf8026
            obtain ⟨w8029, hf8028⟩ : ∃ z : Int64, G 17 = z := ⟨_, rfl⟩
            have hq_w8029 := tk_rngL w8029
            rw [hf8028] at hpo8016
            obtain ⟨v8031, hf8030⟩ : ∃ z : Int32, F 19 = z := ⟨_, rfl⟩
            have hq_v8031 := tk_rng v8031
            rw [hf8030] at hpo8018 hpo8019 hpo8020
            have hr_v8031 : 0 ≤ v8031.toInt ∧ v8031.toInt ≤ 1 := hIF.at hf8030
            have hL22 := hL22.to (hrr9 22 (by decide))
            have hC9 := hC
            have hC : v8031.toInt = 0 → CLS 8 [3, 5] (R 24) (R 25) (Ra 22) gc.toInt gn.toInt := fun h9 => (hC9 (by omega)).to (hrr9 24 (by decide)) (hrr9 25 (by decide))
            refine lv_aload_n hx hb dX13_readLaw_57 rfl (lv_at hl 2 rfl) ?_
            refine mz_getI hx hb htl hown hK hM 19 (Nat.le_of_ble_eq_true rfl) rfl (htl _ mw_668) (fun _ h9 => h9) dX13_readLaw_58 (fun v9 e9 => ?_)
            refine fx_ti (v := v8031) (e9.symm.trans hf8030) ?_
            refine lv_if_eq (tgt := 65) hx hb dX13_readLaw_61 (by decide) (fun c9 => ?_) (fun c9 => ?_)
            · have hc8032 : v8031.toInt = 0 := (fi_eq rfl (show (0 : Int32).toInt = 0 by decide)).mp c9
              exfalso
              omega
            · have hc8032 : ¬ (v8031.toInt = 0) := fun h9 => c9 ((fi_eq rfl (show (0 : Int32).toInt = 0 by decide)).mpr h9)
              exact mz_vret hx hb hr hlocks ⟨hIF, hIG, hIR, hFF, hRR, hGG, (by rw [hf8022, hf8024]; omega), (by rw [hf8024]; omega), (by rw [hf8022, hf8024, hf8026]; omega), (by rw [hf8022, hf8024, hf8026, hf8028]; omega), (by rw [hf8022]; omega), (by rw [hg_6]; omega), (by rw [hf8022, hg_6]; omega), (by rw [hf8030]; omega), (by rw [hf8022, hf8030]; omega), (by rw [hf8030]; exact fun h9 => absurd h9 (by omega))⟩ hM hS dX13_readLaw_64
          · have hc8012 : ¬ (12 ≤ gn.toInt) := fun h9 => c9 ((fi_le (show (12 : Int32).toInt = 12 by decide) rfl).mpr h9)
            refine lv_iconst (v := 1) hx hb dX13_readLaw_49 (by decide) ?_
            refine lv_goto (tgt := 54) hx hb dX13_readLaw_50 (by decide) ?_
            have hk_1 : (1 : Int32).toInt = 1 := by decide
            refine mz_Vv (As := [.int 1]) (rest := []) ⟨hx, hb, hml, hown, hts⟩ hK hM hS (k_X13_must l D cy ld ad am hD _ _ _ _ 1 gf gt gs gp gw gb hIF hIG hIR hg_0 hg_1 hg_2 hg_3 hg_4 hg_5 (by omega) (by omega) (by omega) (by omega) (by omega) (by omega)) ⟨callB_of 1 hts (wl_in mw_713) rfl rfl rfl (htl _ mw_5) (htl _ mw_710) hd_yX13_must ⟨(Nat.le_of_ble_eq_true rfl), (Nat.le_of_ble_eq_true rfl)⟩, htl _ mw_711, htl _ mw_712⟩ rfl hl.1 rfl (Nat.le_of_ble_eq_true rfl) dX13_readLaw_54 ⟨(Nat.le_of_ble_eq_true rfl), (Nat.le_of_ble_eq_true rfl)⟩ (fun H locs F G R S hpo hM hS => ?_)
            obtain ⟨hIF, hIG, hIR, hfr9, hrr9, hgr9, hpo8033, hpo8034, hpo8035, hpo8036, hpo8037, hpo8038, hpo8039, hpo8040⟩ := hpo
            have hFF := mz_fr (K := [14, 15, 16, 18, 19, 21, 23, 26, 29, 30]) (Fa := Fa) hfr9 (fun _ _ => rfl) (by decide)
            have hRR := mz_fr (K := [22, 24, 25, 27, 28]) (Fa := Ra) hrr9 (fun _ _ => rfl) (by decide)
            have hGG := mz_fr (K := [17]) (Fa := Ga) hgr9 (fun _ _ => rfl) (by decide)
            have hg_3 := (hfr9 13 (by decide)).trans hg_3
            have hg_6 := (hfr9 23 (by decide)).trans hg_6
            have hg_7 := (hfr9 21 (by decide)).trans hg_7
            obtain ⟨v8043, hf8042⟩ : ∃ z : Int32, F 14 = z := ⟨_, rfl⟩
            have hq_v8043 := tk_rng v8043
            rw [hf8042] at hpo8033 hpo8035 hpo8036 hpo8037 hpo8039
            have hr_v8043 : 0 ≤ v8043.toInt ∧ v8043.toInt ≤ 400 := hIF.at hf8042
            obtain ⟨v8045, hf8044⟩ : ∃ z : Int32, F 15 = z := ⟨_, rfl⟩
            have hq_v8045 := tk_rng v8045
            rw [hf8044] at hpo8033 hpo8034 hpo8035 hpo8036
            have hr_v8045 : 0 ≤ v8045.toInt ∧ v8045.toInt ≤ 400 := hIF.at hf8044
            obtain ⟨v8047, hf8046⟩ : ∃ z : Int32, F 16 = z := ⟨_, rfl⟩
            have hq_v8047 := tk_rng v8047
            rw [hf8046] at hpo8035 hpo8036
            have hr_v8047 : 0 ≤ v8047.toInt ∧ v8047.toInt ≤ 3 := hIF.at hf8046
            obtain ⟨w8049, hf8048⟩ : ∃ z : Int64, G 17 = z := ⟨_, rfl⟩
            have hq_w8049 := tk_rngL w8049
            rw [hf8048] at hpo8036
            obtain ⟨v8051, hf8050⟩ : ∃ z : Int32, F 19 = z := ⟨_, rfl⟩
            have hq_v8051 := tk_rng v8051
            rw [hf8050] at hpo8038 hpo8039 hpo8040
            have hr_v8051 : 0 ≤ v8051.toInt ∧ v8051.toInt ≤ 1 := hIF.at hf8050
            have hL22 := hL22.to (hrr9 22 (by decide))
            have hC9 := hC
            have hC : v8051.toInt = 0 → CLS 8 [3, 5] (R 24) (R 25) (Ra 22) gc.toInt gn.toInt := fun h9 => (hC9 (by omega)).to (hrr9 24 (by decide)) (hrr9 25 (by decide))
            refine lv_aload_n hx hb dX13_readLaw_57 rfl (lv_at hl 2 rfl) ?_
            refine mz_getI hx hb htl hown hK hM 19 (Nat.le_of_ble_eq_true rfl) rfl (htl _ mw_668) (fun _ h9 => h9) dX13_readLaw_58 (fun v9 e9 => ?_)
            refine fx_ti (v := v8051) (e9.symm.trans hf8050) ?_
            refine lv_if_eq (tgt := 65) hx hb dX13_readLaw_61 (by decide) (fun _ => ?_) (fun c9 => absurd ((fi_eq rfl (show (0 : Int32).toInt = 0 by decide)).mpr (show v8051.toInt = 0 by omega)) c9)
            refine lv_bipush (v := 8) hx hb dX13_readLaw_65 (by decide) ?_
            refine lv_aload_n hx hb dX13_readLaw_67 rfl (lv_at hl 2 rfl) ?_
            refine mz_getI hx hb htl hown hK hM 21 (Nat.le_of_ble_eq_true rfl) rfl (htl _ mw_669) (fun _ h9 => h9) dX13_readLaw_68 (fun v9 e9 => ?_)
            refine fx_ti (v := gn) (e9.symm.trans hg_7) ?_
            refine lv_imul hx hb dX13_readLaw_71 ?_
            refine tk_mul (show (8 : Int32).toInt = 8 by decide) rfl (by omega) (by omega) (fun v8052 h_v8052 => ?_)
            refine lv_istore_n (lv' := [(2, .int v8052), (1, .int v1067), (0, .ref am)]) hx hb dX13_readLaw_72 rfl hl (by decide) rfl (fun ls hl => ?_)
            refine lv_iconst (v := 0) hx hb dX13_readLaw_73 (by decide) ?_
            refine lv_istore_n (lv' := [(3, .int 0), (2, .int v8052), (1, .int v1067), (0, .ref am)]) hx hb dX13_readLaw_74 rfl hl (by decide) rfl (fun ls hl => ?_)
            have hl8758 : ∀ (N_l8758 : Nat) (v8053 : Int32) (H : Heap) (locs : List Loc) (R : Nat → Nat → Int32), (0 ≤ (-1) * v8051.toInt + v8053.toInt) → (v8053.toInt ≤ 8) → (mz_S D cy ad am F G R S H) → (va_S (mz_W ad am) s.heap H locs) → (mz_IR [] true R) → (∀ k : Nat, k ∉ ([22, 24, 25, 27, 28] : List Nat) → R k = Ra k) → (low (8 * gn.toInt.toNat) (Ra 22) (R 22)) → (v8051.toInt = 0 → CLS 8 [3, 5] (R 24) (R 25) (Ra 22) gc.toInt gn.toInt) → ((-1) * v8053.toInt + 8 < (N_l8758 : Int)) → ∀ ls : Array Slot, lv_has ls 4 [(3, .int v8053), (2, .int v8052), (1, .int v1067), (0, .ref am)] → W p l e ({ frames := 10, cells := 0, slots := 0, locals := 630 }) s m args below meth c H locs 0 0 (MQ below (mz_w D cy ad am (fun F G R S => mz_IF false F ∧ mz_IG G ∧ mz_IR [] true R ∧ (∀ k : Nat, k ∉ ([14, 15, 16, 18, 19, 21, 23, 26, 29, 30] : List Nat) → F k = Fa k) ∧ (∀ k : Nat, k ∉ ([22, 24, 25, 27, 28] : List Nat) → R k = Ra k) ∧ (∀ k : Nat, k ∉ ([17] : List Nat) → G k = Ga k) ∧ 0 ≤ (-1) * (F 14).toInt + (F 15).toInt ∧ 0 ≤ gp.toInt + (-1) * (F 15).toInt ∧ (1 ≤ (F 16).toInt → 0 ≤ (-1) * (F 14).toInt + (F 15).toInt + (-1)) ∧ (27 ≤ (G 17).toInt → 1 ≤ (F 16).toInt → (F 16).toInt ≤ 1 → 0 ≤ (-1) * (F 14).toInt + (F 15).toInt + (-2)) ∧ 0 ≤ (-1) * gf.toInt + (F 14).toInt ∧ 0 ≤ (-1) * gc.toInt + (F 23).toInt ∧ 0 ≤ (-1) * (F 23).toInt + (F 14).toInt ∧ 0 ≤ (-1) * gb.toInt + (F 19).toInt ∧ ((F 19).toInt ≤ 0 → 0 ≤ (-1) * gf.toInt + (F 14).toInt + (-1)) ∧ ((F 19).toInt = 0 → CLS 8 [3, 5] (R 24) (R 25) (R 22) (F 23).toInt (F 21).toInt))) args s 0 0 (mz_W ad am)) (F0 m 75 ls []) := by
              intro N_l8758
              induction N_l8758 with
              | zero => intro v8053 H locs R hq0_l8758 hq1_l8758 hM hS hIR hRR hL22 hC hm_l8758 ls hl; exfalso; omega
              | succ N_l8758 ih_l8758 =>
                intro v8053 H locs R hq0_l8758 hq1_l8758 hM hS hIR hRR hL22 hC hm_l8758 ls hl
                refine lv_iload_n hx hb dX13_readLaw_75 rfl (lv_at hl 0 rfl) ?_
                refine lv_bipush (v := 8) hx hb dX13_readLaw_76 (by decide) ?_
                refine lv_icmp_ge (tgt := 96) hx hb dX13_readLaw_78 (by decide) (fun c9 => ?_) (fun c9 => ?_)
                · have hc8759 : 8 ≤ v8053.toInt := (fi_le (show (8 : Int32).toInt = 8 by decide) rfl).mp c9
                  refine lv_aload_n hx hb dX13_readLaw_96 rfl (lv_at hl 3 rfl) ?_
                  refine mz_getR hx hb htl hown hK hM 22 (Nat.le_of_ble_eq_true rfl) (Nat.le_of_ble_eq_true rfl) (htl _ mw_197) (fun _ h9 => h9) dX13_readLaw_97 ?_
                  refine lv_iload_n hx hb dX13_readLaw_100 rfl (lv_at hl 1 rfl) ?_
                  refine lv_iload_n hx hb dX13_readLaw_101 rfl (lv_at hl 2 rfl) ?_
                  refine mz_iast (x := v1067) hx hb hK hD hM hS 22 (Nat.le_of_ble_eq_true rfl) rfl (nn := 96) rfl rfl (by omega) (by omega) dX13_readLaw_102 (fun H locs R hM hS hw9 hj9 => ?_)
                  have hIR := hIR.put hw9 hj9 trivial
                  have hL22 : low (8 * gn.toInt.toNat) (Ra 22) (R 22) := fun j hj => by rw [hw9, pk_un (fun h9 => by have h8 := tk_nat (i := v8052) rfl (by omega); omega)]; exact hL22 j hj
                  have hC9 := hC
                  have hC : v8051.toInt = 0 → CLS 8 [3, 5] (R 24) (R 25) (Ra 22) gc.toInt gn.toInt := fun h9 => (hC9 (by omega)).to (hj9 24 (by decide)) (hj9 25 (by decide))
                  have h22_0 : R 22 (8 * gn.toInt.toNat + 0) = v1067 := by rw [hw9, show 8 * gn.toInt.toNat + 0 = (v8052 : Int32).toNatClampNeg by show _ = v8052.toInt.toNat; omega]; exact pk_us
                  have hRR := mz_frp (K := [22, 24, 25, 27, 28]) (Fa := Ra) hj9 hRR (by decide)
                  refine lv_aload_n hx hb dX13_readLaw_103 rfl (lv_at hl 3 rfl) ?_
                  refine lv_dup hx hb dX13_readLaw_104 rfl ?_
                  refine mz_getI hx hb htl hown hK hM 21 (Nat.le_of_ble_eq_true rfl) rfl (htl _ mw_669) (fun _ h9 => h9) dX13_readLaw_105 (fun v9 e9 => ?_)
                  refine fx_ti (v := gn) (e9.symm.trans hg_7) ?_
                  refine lv_iconst (v := 1) hx hb dX13_readLaw_108 (by decide) ?_
                  refine lv_iadd hx hb dX13_readLaw_109 ?_
                  refine tk_add rfl (show (1 : Int32).toInt = 1 by decide) (by omega) (by omega) (fun v8761 h_v8761 => ?_)
                  refine mz_putI (ty := .int) (x := v8761) hx hb htl hown hK hD hM hS 21 (Nat.le_of_ble_eq_true rfl) rfl (htl _ mw_669) (fun _ h9 => h9) rfl (tyX13_ok 21 (by decide)) rfl rfl dX13_readLaw_110 (fun H locs F hM hS hf9 hj9 => ?_)
                  have hIF := hIF.put hf9 hj9 (show 0 ≤ (v8761 : Int32).toInt by omega) (show (v8761 : Int32).toInt ≤ 12 by omega) (by decide)
                  have hFF := mz_frp (K := [14, 15, 16, 18, 19, 21, 23, 26, 29, 30]) (Fa := Fa) hj9 hFF (by decide)
                  have hg_3 := (hj9 13 (by decide)).trans hg_3
                  have hg_6 := (hj9 23 (by decide)).trans hg_6
                  have hf8042 := (hj9 14 (by decide)).trans hf8042
                  have hf8044 := (hj9 15 (by decide)).trans hf8044
                  have hf8046 := (hj9 16 (by decide)).trans hf8046
                  have hf8050 := (hj9 19 (by decide)).trans hf8050
                  have hf8763 := hf9
                  refine lv_aload_n hx hb dX13_readLaw_113 rfl (lv_at hl 3 rfl) ?_
                  refine mz_getR hx hb htl hown hK hM 22 (Nat.le_of_ble_eq_true rfl) (Nat.le_of_ble_eq_true rfl) (htl _ mw_197) (fun _ h9 => h9) dX13_readLaw_114 ?_
                  refine lv_iload_n hx hb dX13_readLaw_117 rfl (lv_at hl 1 rfl) ?_
                  refine lv_iconst (v := 3) hx hb dX13_readLaw_118 (by decide) ?_
                  refine lv_iadd hx hb dX13_readLaw_119 ?_
                  refine tk_add rfl (show (3 : Int32).toInt = 3 by decide) (by omega) (by omega) (fun v8764 h_v8764 => ?_)
                  refine lv_aload_n hx hb dX13_readLaw_120 rfl (lv_at hl 3 rfl) ?_
                  refine mz_getI hx hb htl hown hK hM 23 (Nat.le_of_ble_eq_true rfl) rfl (htl _ mw_670) (fun _ h9 => h9) dX13_readLaw_121 (fun v9 e9 => ?_)
                  refine fx_ti (v := gc) (e9.symm.trans hg_6) ?_
                  refine mz_iast (x := gc) hx hb hK hD hM hS 22 (Nat.le_of_ble_eq_true rfl) rfl (nn := 96) rfl rfl (by omega) (by omega) dX13_readLaw_124 (fun H locs R hM hS hw9 hj9 => ?_)
                  have hIR := hIR.put hw9 hj9 trivial
                  have hL22 : low (8 * gn.toInt.toNat) (Ra 22) (R 22) := fun j hj => by rw [hw9, pk_un (fun h9 => by have h8 := tk_nat (i := v8764) rfl (by omega); omega)]; exact hL22 j hj
                  have h22_0 : R 22 (8 * gn.toInt.toNat + 0) = v1067 := by rw [hw9, pk_un (fun h9 => by have h8 := tk_nat (i := v8764) rfl (by omega); omega)]; exact h22_0
                  have hC9 := hC
                  have hC : v8051.toInt = 0 → CLS 8 [3, 5] (R 24) (R 25) (Ra 22) gc.toInt gn.toInt := fun h9 => (hC9 (by omega)).to (hj9 24 (by decide)) (hj9 25 (by decide))
                  have h22_3 : R 22 (8 * gn.toInt.toNat + 3) = gc := by rw [hw9, show 8 * gn.toInt.toNat + 3 = (v8764 : Int32).toNatClampNeg by show _ = v8764.toInt.toNat; omega]; exact pk_us
                  have hRR := mz_frp (K := [22, 24, 25, 27, 28]) (Fa := Ra) hj9 hRR (by decide)
                  refine lv_iload_n hx hb dX13_readLaw_125 rfl (lv_at hl 2 rfl) ?_
                  refine lv_iconst (v := 3) hx hb dX13_readLaw_126 (by decide) ?_
                  refine lv_icmp_eq (tgt := 135) hx hb dX13_readLaw_127 (by decide) (fun c9 => ?_) (fun c9 => ?_)
                  · have hc8766 : v1067.toInt = 3 := (fi_eq rfl (show (3 : Int32).toInt = 3 by decide)).mp c9
                    refine lv_aload_n hx hb dX13_readLaw_135 rfl (lv_at hl 3 rfl) ?_
                    refine mz_getR hx hb htl hown hK hM 22 (Nat.le_of_ble_eq_true rfl) (Nat.le_of_ble_eq_true rfl) (htl _ mw_197) (fun _ h9 => h9) dX13_readLaw_136 ?_
                    refine lv_iload_n hx hb dX13_readLaw_139 rfl (lv_at hl 1 rfl) ?_
                    refine lv_iconst (v := 4) hx hb dX13_readLaw_140 (by decide) ?_
                    refine lv_iadd hx hb dX13_readLaw_141 ?_
                    refine tk_add rfl (show (4 : Int32).toInt = 4 by decide) (by omega) (by omega) (fun v8767 h_v8767 => ?_)
                    refine lv_aload_n hx hb dX13_readLaw_142 rfl (lv_at hl 3 rfl) ?_
                    refine mz_getI hx hb htl hown hK hM 23 (Nat.le_of_ble_eq_true rfl) rfl (htl _ mw_670) (fun _ h9 => h9) dX13_readLaw_143 (fun v9 e9 => ?_)
                    refine fx_ti (v := gc) (e9.symm.trans hg_6) ?_
                    refine mz_iast (x := gc) hx hb hK hD hM hS 22 (Nat.le_of_ble_eq_true rfl) rfl (nn := 96) rfl rfl (by omega) (by omega) dX13_readLaw_146 (fun H locs R hM hS hw9 hj9 => ?_)
                    have hIR := hIR.put hw9 hj9 trivial
                    have hL22 : low (8 * gn.toInt.toNat) (Ra 22) (R 22) := fun j hj => by rw [hw9, pk_un (fun h9 => by have h8 := tk_nat (i := v8767) rfl (by omega); omega)]; exact hL22 j hj
                    have h22_0 : R 22 (8 * gn.toInt.toNat + 0) = v1067 := by rw [hw9, pk_un (fun h9 => by have h8 := tk_nat (i := v8767) rfl (by omega); omega)]; exact h22_0
                    have h22_3 : R 22 (8 * gn.toInt.toNat + 3) = gc := by rw [hw9, pk_un (fun h9 => by have h8 := tk_nat (i := v8767) rfl (by omega); omega)]; exact h22_3
                    have hC9 := hC
                    have hC : v8051.toInt = 0 → CLS 8 [3, 5] (R 24) (R 25) (Ra 22) gc.toInt gn.toInt := fun h9 => (hC9 (by omega)).to (hj9 24 (by decide)) (hj9 25 (by decide))
                    have h22_4 : R 22 (8 * gn.toInt.toNat + 4) = gc := by rw [hw9, show 8 * gn.toInt.toNat + 4 = (v8767 : Int32).toNatClampNeg by show _ = v8767.toInt.toNat; omega]; exact pk_us
                    have hRR := mz_frp (K := [22, 24, 25, 27, 28]) (Fa := Ra) hj9 hRR (by decide)
                    refine lv_aload_n hx hb dX13_readLaw_147 rfl (lv_at hl 3 rfl) ?_
                    refine mz_getR hx hb htl hown hK hM 22 (Nat.le_of_ble_eq_true rfl) (Nat.le_of_ble_eq_true rfl) (htl _ mw_197) (fun _ h9 => h9) dX13_readLaw_148 ?_
                    refine lv_iload_n hx hb dX13_readLaw_151 rfl (lv_at hl 1 rfl) ?_
                    refine lv_iconst (v := 5) hx hb dX13_readLaw_152 (by decide) ?_
                    refine lv_iadd hx hb dX13_readLaw_153 ?_
                    refine tk_add rfl (show (5 : Int32).toInt = 5 by decide) (by omega) (by omega) (fun v8769 h_v8769 => ?_)
                    refine lv_aload_n hx hb dX13_readLaw_154 rfl (lv_at hl 3 rfl) ?_
                    refine mz_getI hx hb htl hown hK hM 23 (Nat.le_of_ble_eq_true rfl) rfl (htl _ mw_670) (fun _ h9 => h9) dX13_readLaw_155 (fun v9 e9 => ?_)
                    refine fx_ti (v := gc) (e9.symm.trans hg_6) ?_
                    refine mz_iast (x := gc) hx hb hK hD hM hS 22 (Nat.le_of_ble_eq_true rfl) rfl (nn := 96) rfl rfl (by omega) (by omega) dX13_readLaw_158 (fun H locs R hM hS hw9 hj9 => ?_)
                    have hIR := hIR.put hw9 hj9 trivial
                    have hL22 : low (8 * gn.toInt.toNat) (Ra 22) (R 22) := fun j hj => by rw [hw9, pk_un (fun h9 => by have h8 := tk_nat (i := v8769) rfl (by omega); omega)]; exact hL22 j hj
                    have h22_0 : R 22 (8 * gn.toInt.toNat + 0) = v1067 := by rw [hw9, pk_un (fun h9 => by have h8 := tk_nat (i := v8769) rfl (by omega); omega)]; exact h22_0
                    have h22_3 : R 22 (8 * gn.toInt.toNat + 3) = gc := by rw [hw9, pk_un (fun h9 => by have h8 := tk_nat (i := v8769) rfl (by omega); omega)]; exact h22_3
                    have h22_4 : R 22 (8 * gn.toInt.toNat + 4) = gc := by rw [hw9, pk_un (fun h9 => by have h8 := tk_nat (i := v8769) rfl (by omega); omega)]; exact h22_4
                    have hC9 := hC
                    have hC : v8051.toInt = 0 → CLS 8 [3, 5] (R 24) (R 25) (Ra 22) gc.toInt gn.toInt := fun h9 => (hC9 (by omega)).to (hj9 24 (by decide)) (hj9 25 (by decide))
                    have h22_5 : R 22 (8 * gn.toInt.toNat + 5) = gc := by rw [hw9, show 8 * gn.toInt.toNat + 5 = (v8769 : Int32).toNatClampNeg by show _ = v8769.toInt.toNat; omega]; exact pk_us
                    have hRR := mz_frp (K := [22, 24, 25, 27, 28]) (Fa := Ra) hj9 hRR (by decide)
                    refine lv_aload_n hx hb dX13_readLaw_159 rfl (lv_at hl 3 rfl) ?_
                    refine mz_getI hx hb htl hown hK hM 19 (Nat.le_of_ble_eq_true rfl) rfl (htl _ mw_668) (fun _ h9 => h9) dX13_readLaw_160 (fun v9 e9 => ?_)
                    refine fx_ti (v := v8051) (e9.symm.trans hf8050) ?_
                    refine lv_if_ne (tgt := 185) hx hb dX13_readLaw_163 (by decide) (fun c9 => absurd ((fi_eq rfl (show (0 : Int32).toInt = 0 by decide)).mpr (show v8051.toInt = 0 by omega)) c9) (fun _ => ?_)
                    refine lv_aload_n hx hb dX13_readLaw_166 rfl (lv_at hl 3 rfl) ?_
                    refine lv_ldc2 hx hb hown (htl _ mw_705) dX13_readLaw_167 ?_
                    have hk_294 : (294 : Int64).toInt = 294 := by decide
                    refine mz_Vj (As := [.long 294]) (rest := []) ⟨hx, hb, hml, hown, hts⟩ hK hM hS (k_X13_isWord l D cy ld ad am hD _ _ _ _ 294 v8047 w8049 hIF hIG hIR hf8046 hf8048) ⟨callB_of 1 hts (wl_in mw_709) rfl rfl rfl (htl _ mw_5) (htl _ mw_706) hd_yX13_isWord ⟨(Nat.le_of_ble_eq_true rfl), (Nat.le_of_ble_eq_true rfl)⟩, htl _ mw_707, htl _ mw_708⟩ rfl hl.1 rfl (Nat.le_of_ble_eq_true rfl) dX13_readLaw_170 ⟨(Nat.le_of_ble_eq_true rfl), (Nat.le_of_ble_eq_true rfl)⟩ (fun v8771 H locs hpo hM hS => ?_)
                    obtain ⟨hpo8772, hpo8773, hpo8774, hpo8775, hpo8776⟩ := hpo
                    have hq_v8771 := tk_rng v8771
                    refine lv_if_eq (tgt := 185) hx hb dX13_readLaw_173 (by decide) (fun c9 => ?_) (fun c9 => ?_)
                    · have hc8778 : v8771.toInt = 0 := (fi_eq rfl (show (0 : Int32).toInt = 0 by decide)).mp c9
                      refine lv_aload_n hx hb dX13_readLaw_185 rfl (lv_at hl 3 rfl) ?_
                      refine mz_getR hx hb htl hown hK hM 22 (Nat.le_of_ble_eq_true rfl) (Nat.le_of_ble_eq_true rfl) (htl _ mw_197) (fun _ h9 => h9) dX13_readLaw_186 ?_
                      refine lv_iload_n hx hb dX13_readLaw_189 rfl (lv_at hl 1 rfl) ?_
                      refine lv_bipush (v := 6) hx hb dX13_readLaw_190 (by decide) ?_
                      refine lv_iadd hx hb dX13_readLaw_192 ?_
                      refine tk_add rfl (show (6 : Int32).toInt = 6 by decide) (by omega) (by omega) (fun v8779 h_v8779 => ?_)
                      refine lv_aload_n hx hb dX13_readLaw_193 rfl (lv_at hl 3 rfl) ?_
                      refine mz_getI hx hb htl hown hK hM 23 (Nat.le_of_ble_eq_true rfl) rfl (htl _ mw_670) (fun _ h9 => h9) dX13_readLaw_194 (fun v9 e9 => ?_)
                      refine fx_ti (v := gc) (e9.symm.trans hg_6) ?_
                      refine mz_iast (x := gc) hx hb hK hD hM hS 22 (Nat.le_of_ble_eq_true rfl) rfl (nn := 96) rfl rfl (by omega) (by omega) dX13_readLaw_197 (fun H locs R hM hS hw9 hj9 => ?_)
                      have hIR := hIR.put hw9 hj9 trivial
                      have hL22 : low (8 * gn.toInt.toNat) (Ra 22) (R 22) := fun j hj => by rw [hw9, pk_un (fun h9 => by have h8 := tk_nat (i := v8779) rfl (by omega); omega)]; exact hL22 j hj
                      have h22_0 : R 22 (8 * gn.toInt.toNat + 0) = v1067 := by rw [hw9, pk_un (fun h9 => by have h8 := tk_nat (i := v8779) rfl (by omega); omega)]; exact h22_0
                      have h22_3 : R 22 (8 * gn.toInt.toNat + 3) = gc := by rw [hw9, pk_un (fun h9 => by have h8 := tk_nat (i := v8779) rfl (by omega); omega)]; exact h22_3
                      have h22_4 : R 22 (8 * gn.toInt.toNat + 4) = gc := by rw [hw9, pk_un (fun h9 => by have h8 := tk_nat (i := v8779) rfl (by omega); omega)]; exact h22_4
                      have h22_5 : R 22 (8 * gn.toInt.toNat + 5) = gc := by rw [hw9, pk_un (fun h9 => by have h8 := tk_nat (i := v8779) rfl (by omega); omega)]; exact h22_5
                      have hC9 := hC
                      have hC : v8051.toInt = 0 → CLS 8 [3, 5] (R 24) (R 25) (Ra 22) gc.toInt gn.toInt := fun h9 => (hC9 (by omega)).to (hj9 24 (by decide)) (hj9 25 (by decide))
                      have h22_6 : R 22 (8 * gn.toInt.toNat + 6) = gc := by rw [hw9, show 8 * gn.toInt.toNat + 6 = (v8779 : Int32).toNatClampNeg by show _ = v8779.toInt.toNat; omega]; exact pk_us
                      have hRR := mz_frp (K := [22, 24, 25, 27, 28]) (Fa := Ra) hj9 hRR (by decide)
                      exact mz_vret hx hb hr hlocks ⟨hIF, hIG, hIR, hFF, hRR, hGG, (by rw [hf8042, hf8044]; omega), (by rw [hf8044]; omega), (by rw [hf8042, hf8044, hf8046]; omega), (by rw [hf8042, hf8044, hf8046, hf8048]; omega), (by rw [hf8042]; omega), (by rw [hg_6]; omega), (by rw [hf8042, hg_6]; omega), (by rw [hf8050]; omega), (by rw [hf8042, hf8050]; omega), (by rw [hf8050, hg_6, hf8763]; exact fun h9 => mz_snoc (N := gn.toInt.toNat) (hC h9) (by omega) (by omega) hL22 (by decide) (by omega) (by intro d hd; simp only [List.mem_cons, List.not_mem_nil, or_false] at hd; rcases hd with rfl | rfl <;> first | (rw [show 8 * gn.toInt.toNat + 3 + 1 = 8 * gn.toInt.toNat + 4 from rfl, h22_3, h22_4]; exact ⟨WFX.nil (by omega) (by omega), by omega⟩) | (rw [show 8 * gn.toInt.toNat + 5 + 1 = 8 * gn.toInt.toNat + 6 from rfl, h22_5, h22_6]; exact ⟨WFX.nil (by omega) (by omega), by omega⟩)))⟩ hM hS dX13_readLaw_198
                    · have hc8778 : ¬ (v8771.toInt = 0) := fun h9 => c9 ((fi_eq rfl (show (0 : Int32).toInt = 0 by decide)).mpr h9)
                      refine lv_aload_n hx hb dX13_readLaw_176 rfl (lv_at hl 3 rfl) ?_
                      refine mz_Vv (As := []) (rest := []) ⟨hx, hb, hml, hown, hts⟩ hK hM hS (k_X13_next l D cy ld ad am hD _ _ _ _ v8045 gp hIF hIG hIR hf8044 hg_3 (by omega)) ⟨callB_of 0 hts (wl_in mw_685) rfl rfl rfl (htl _ mw_5) (htl _ mw_682) hd_yX13_next ⟨(Nat.le_of_ble_eq_true rfl), (Nat.le_of_ble_eq_true rfl)⟩, htl _ mw_683, htl _ mw_684⟩ rfl hl.1 rfl (Nat.le_of_ble_eq_true rfl) dX13_readLaw_177 ⟨(Nat.le_of_ble_eq_true rfl), (Nat.le_of_ble_eq_true rfl)⟩ (fun H locs F G R S hpo hM hS => ?_)
                      obtain ⟨hIF, hIG, hIR, hfr9, hrr9, hgr9, hpo8781, hpo8782, hpo8783, hpo8784, hpo8785⟩ := hpo
                      have hFF := mz_fr (K := [14, 15, 16, 18, 19, 21, 23, 26, 29, 30]) (Fa := Fa) hfr9 hFF (by decide)
                      have hRR := mz_fr (K := [22, 24, 25, 27, 28]) (Fa := Ra) hrr9 hRR (by decide)
                      have hGG := mz_fr (K := [17]) (Fa := Ga) hgr9 hGG (by decide)
                      have hg_3 := (hfr9 13 (by decide)).trans hg_3
                      have hg_6 := (hfr9 23 (by decide)).trans hg_6
                      have hf8050 := (hfr9 19 (by decide)).trans hf8050
                      have hf8763 := (hfr9 21 (by decide)).trans hf8763
                      obtain ⟨v8788, hf8787⟩ : ∃ z : Int32, F 14 = z := ⟨_, rfl⟩
                      have hq_v8788 := tk_rng v8788
                      rw [hf8787] at hpo8781 hpo8782 hpo8784 hpo8785
                      have hr_v8788 : 0 ≤ v8788.toInt ∧ v8788.toInt ≤ 400 := hIF.at hf8787
                      obtain ⟨v8790, hf8789⟩ : ∃ z : Int32, F 15 = z := ⟨_, rfl⟩
                      have hq_v8790 := tk_rng v8790
                      rw [hf8789] at hpo8782 hpo8783 hpo8784 hpo8785
                      have hr_v8790 : 0 ≤ v8790.toInt ∧ v8790.toInt ≤ 400 := hIF.at hf8789
                      obtain ⟨v8792, hf8791⟩ : ∃ z : Int32, F 16 = z := ⟨_, rfl⟩
                      have hq_v8792 := tk_rng v8792
                      rw [hf8791] at hpo8784 hpo8785
                      have hr_v8792 : 0 ≤ v8792.toInt ∧ v8792.toInt ≤ 3 := hIF.at hf8791
                      obtain ⟨w8794, hf8793⟩ : ∃ z : Int64, G 17 = z := ⟨_, rfl⟩
                      have hq_w8794 := tk_rngL w8794
                      rw [hf8793] at hpo8785
                      have hL22 := hL22.to (hrr9 22 (by decide))
                      have h22_0 := (congrFun (hrr9 22 (by decide)) _).trans h22_0
                      have h22_3 := (congrFun (hrr9 22 (by decide)) _).trans h22_3
                      have h22_4 := (congrFun (hrr9 22 (by decide)) _).trans h22_4
                      have h22_5 := (congrFun (hrr9 22 (by decide)) _).trans h22_5
                      have hC9 := hC
                      have hC : v8051.toInt = 0 → CLS 8 [3, 5] (R 24) (R 25) (Ra 22) gc.toInt gn.toInt := fun h9 => (hC9 (by omega)).to (hrr9 24 (by decide)) (hrr9 25 (by decide))
                      refine lv_aload_n hx hb dX13_readLaw_180 rfl (lv_at hl 3 rfl) ?_
                      refine lv_iconst (v := 1) hx hb dX13_readLaw_181 (by decide) ?_
                      have hk_1 : (1 : Int32).toInt = 1 := by decide
                      refine mz_Vv (As := [.int 1]) (rest := []) ⟨hx, hb, hml, hown, hts⟩ hK hM hS (k_X13_readExpression l D cy ld ad am hD _ _ _ _ 1 v8788 v8790 v8792 gp w8794 v8051 gc hIF hIG hIR hf8787 hf8789 hf8791 hg_3 hf8793 hf8050 hg_6 (by omega) (by omega) (by omega) (by omega) (by omega) (by omega) (by omega) (by omega)) ⟨callB_of 1 hts (wl_in mw_717) rfl rfl rfl (htl _ mw_5) (htl _ mw_714) hd_yX13_readExpression ⟨(Nat.le_of_ble_eq_true rfl), (Nat.le_of_ble_eq_true rfl)⟩, htl _ mw_715, htl _ mw_716⟩ rfl hl.1 rfl (Nat.le_of_ble_eq_true rfl) dX13_readLaw_182 ⟨(Nat.le_of_ble_eq_true rfl), (Nat.le_of_ble_eq_true rfl)⟩ (fun H locs F G R S hpo hM hS => ?_)
                      obtain ⟨hIF, hIG, hIR, hfr9, hrr9, hgr9, hpo8795, hpo8796, hpo8797, hpo8798, hpo8799, hpo8800, hpo8801, hx8802⟩ := hpo
                      have hFF := mz_fr (K := [14, 15, 16, 18, 19, 21, 23, 26, 29, 30]) (Fa := Fa) hfr9 hFF (by decide)
                      have hRR := mz_fr (K := [22, 24, 25, 27, 28]) (Fa := Ra) hrr9 hRR (by decide)
                      have hGG := mz_fr (K := [17]) (Fa := Ga) hgr9 hGG (by decide)
                      have hg_3 := (hfr9 13 (by decide)).trans hg_3
                      have hf8763 := (hfr9 21 (by decide)).trans hf8763
                      obtain ⟨v8805, hf8804⟩ : ∃ z : Int32, F 14 = z := ⟨_, rfl⟩
                      have hq_v8805 := tk_rng v8805
                      rw [hf8804] at hpo8795 hpo8797 hpo8798 hpo8799 hpo8800
                      have hr_v8805 : 0 ≤ v8805.toInt ∧ v8805.toInt ≤ 400 := hIF.at hf8804
                      obtain ⟨v8807, hf8806⟩ : ∃ z : Int32, F 15 = z := ⟨_, rfl⟩
                      have hq_v8807 := tk_rng v8807
                      rw [hf8806] at hpo8795 hpo8796 hpo8797 hpo8798
                      have hr_v8807 : 0 ≤ v8807.toInt ∧ v8807.toInt ≤ 400 := hIF.at hf8806
                      obtain ⟨v8809, hf8808⟩ : ∃ z : Int32, F 16 = z := ⟨_, rfl⟩
                      have hq_v8809 := tk_rng v8809
                      rw [hf8808] at hpo8797 hpo8798
                      have hr_v8809 : 0 ≤ v8809.toInt ∧ v8809.toInt ≤ 3 := hIF.at hf8808
                      obtain ⟨w8811, hf8810⟩ : ∃ z : Int64, G 17 = z := ⟨_, rfl⟩
                      have hq_w8811 := tk_rngL w8811
                      rw [hf8810] at hpo8798
                      obtain ⟨v8813, hf8812⟩ : ∃ z : Int32, F 19 = z := ⟨_, rfl⟩
                      have hq_v8813 := tk_rng v8813
                      have hr_v8813 : 0 ≤ v8813.toInt ∧ v8813.toInt ≤ 1 := hIF.at hf8812
                      obtain ⟨v8815, hf8814⟩ : ∃ z : Int32, F 23 = z := ⟨_, rfl⟩
                      have hq_v8815 := tk_rng v8815
                      rw [hf8814] at hpo8800 hpo8801
                      have hr_v8815 : 0 ≤ v8815.toInt ∧ v8815.toInt ≤ 400 := hIF.at hf8814
                      have hL22 := hL22.to (hrr9 22 (by decide))
                      have h22_0 := (congrFun (hrr9 22 (by decide)) _).trans h22_0
                      have h22_3 := (congrFun (hrr9 22 (by decide)) _).trans h22_3
                      have h22_4 := (congrFun (hrr9 22 (by decide)) _).trans h22_4
                      have h22_5 := (congrFun (hrr9 22 (by decide)) _).trans h22_5
                      have hE9 : v8813.toInt = 0 → WFC (R 24) (R 25) gc.toInt.toNat v8815.toInt.toNat ∧ low gc.toInt.toNat _ (R 24) ∧ low gc.toInt.toNat _ (R 25) := fun h9 => by have h8 := hx8802 (by rw [hf8812]; exact h9); rw [hf8814] at h8; exact h8
                      have hC9 := hC (by omega)
                      have hC : v8813.toInt = 0 → CLS 8 [3, 5] (R 24) (R 25) (Ra 22) gc.toInt gn.toInt := fun h9 => hC9.low (N := gc.toInt.toNat) (by omega) (hE9 h9).2.1 (hE9 h9).2.2
                      have hX8816 : v8813.toInt = 0 → WFX (R 24) (R 25) gc v8815 := fun h9 => ⟨by omega, by omega, by omega, (hE9 h9).1⟩
                      refine lv_aload_n hx hb dX13_readLaw_185 rfl (lv_at hl 3 rfl) ?_
                      refine mz_getR hx hb htl hown hK hM 22 (Nat.le_of_ble_eq_true rfl) (Nat.le_of_ble_eq_true rfl) (htl _ mw_197) (fun _ h9 => h9) dX13_readLaw_186 ?_
                      refine lv_iload_n hx hb dX13_readLaw_189 rfl (lv_at hl 1 rfl) ?_
                      refine lv_bipush (v := 6) hx hb dX13_readLaw_190 (by decide) ?_
                      refine lv_iadd hx hb dX13_readLaw_192 ?_
                      refine tk_add rfl (show (6 : Int32).toInt = 6 by decide) (by omega) (by omega) (fun v8817 h_v8817 => ?_)
                      refine lv_aload_n hx hb dX13_readLaw_193 rfl (lv_at hl 3 rfl) ?_
                      refine mz_getI hx hb htl hown hK hM 23 (Nat.le_of_ble_eq_true rfl) rfl (htl _ mw_670) (fun _ h9 => h9) dX13_readLaw_194 (fun v9 e9 => ?_)
                      refine fx_ti (v := v8815) (e9.symm.trans hf8814) ?_
                      refine mz_iast (x := v8815) hx hb hK hD hM hS 22 (Nat.le_of_ble_eq_true rfl) rfl (nn := 96) rfl rfl (by omega) (by omega) dX13_readLaw_197 (fun H locs R hM hS hw9 hj9 => ?_)
                      have hIR := hIR.put hw9 hj9 trivial
                      have hL22 : low (8 * gn.toInt.toNat) (Ra 22) (R 22) := fun j hj => by rw [hw9, pk_un (fun h9 => by have h8 := tk_nat (i := v8817) rfl (by omega); omega)]; exact hL22 j hj
                      have h22_0 : R 22 (8 * gn.toInt.toNat + 0) = v1067 := by rw [hw9, pk_un (fun h9 => by have h8 := tk_nat (i := v8817) rfl (by omega); omega)]; exact h22_0
                      have h22_3 : R 22 (8 * gn.toInt.toNat + 3) = gc := by rw [hw9, pk_un (fun h9 => by have h8 := tk_nat (i := v8817) rfl (by omega); omega)]; exact h22_3
                      have h22_4 : R 22 (8 * gn.toInt.toNat + 4) = gc := by rw [hw9, pk_un (fun h9 => by have h8 := tk_nat (i := v8817) rfl (by omega); omega)]; exact h22_4
                      have h22_5 : R 22 (8 * gn.toInt.toNat + 5) = gc := by rw [hw9, pk_un (fun h9 => by have h8 := tk_nat (i := v8817) rfl (by omega); omega)]; exact h22_5
                      have hC9 := hC
                      have hC : v8813.toInt = 0 → CLS 8 [3, 5] (R 24) (R 25) (Ra 22) gc.toInt gn.toInt := fun h9 => (hC9 (by omega)).to (hj9 24 (by decide)) (hj9 25 (by decide))
                      have hX88169 := hX8816
                      have hX8816 : v8813.toInt = 0 → WFX (R 24) (R 25) gc v8815 := fun h9 => by rw [hj9 24 (by decide), hj9 25 (by decide)]; exact hX88169 (by omega)
                      have h22_6 : R 22 (8 * gn.toInt.toNat + 6) = v8815 := by rw [hw9, show 8 * gn.toInt.toNat + 6 = (v8817 : Int32).toNatClampNeg by show _ = v8817.toInt.toNat; omega]; exact pk_us
                      have hRR := mz_frp (K := [22, 24, 25, 27, 28]) (Fa := Ra) hj9 hRR (by decide)
                      exact mz_vret hx hb hr hlocks ⟨hIF, hIG, hIR, hFF, hRR, hGG, (by rw [hf8804, hf8806]; omega), (by rw [hf8806]; omega), (by rw [hf8804, hf8806, hf8808]; omega), (by rw [hf8804, hf8806, hf8808, hf8810]; omega), (by rw [hf8804]; omega), (by rw [hf8814]; omega), (by rw [hf8804, hf8814]; omega), (by rw [hf8812]; omega), (by rw [hf8804, hf8812]; omega), (by rw [hf8812, hf8814, hf8763]; exact fun h9 => mz_snoc (N := gn.toInt.toNat) (hC h9) (by omega) (by omega) hL22 (by decide) (by omega) (by intro d hd; simp only [List.mem_cons, List.not_mem_nil, or_false] at hd; rcases hd with rfl | rfl <;> first | (rw [show 8 * gn.toInt.toNat + 3 + 1 = 8 * gn.toInt.toNat + 4 from rfl, h22_3, h22_4]; exact ⟨WFX.nil (by omega) (by omega), by omega⟩) | (rw [show 8 * gn.toInt.toNat + 5 + 1 = 8 * gn.toInt.toNat + 6 from rfl, h22_5, h22_6]; exact ⟨hX8816 h9, by omega⟩)))⟩ hM hS dX13_readLaw_198
                  · have hc8766 : ¬ (v1067.toInt = 3) := fun h9 => c9 ((fi_eq rfl (show (3 : Int32).toInt = 3 by decide)).mpr h9)
                    refine lv_aload_n hx hb dX13_readLaw_130 rfl (lv_at hl 3 rfl) ?_
                    refine lv_iconst (v := 0) hx hb dX13_readLaw_131 (by decide) ?_
                    have hk_0 : (0 : Int32).toInt = 0 := by decide
                    refine mz_Vv (As := [.int 0]) (rest := []) ⟨hx, hb, hml, hown, hts⟩ hK hM hS (k_X13_readExpression l D cy ld ad am hD _ _ _ _ 0 v8043 v8045 v8047 gp w8049 v8051 gc hIF hIG hIR hf8042 hf8044 hf8046 hg_3 hf8048 hf8050 hg_6 (by omega) (by omega) (by omega) (by omega) (by omega) (by omega) (by omega) (by omega)) ⟨callB_of 1 hts (wl_in mw_717) rfl rfl rfl (htl _ mw_5) (htl _ mw_714) hd_yX13_readExpression ⟨(Nat.le_of_ble_eq_true rfl), (Nat.le_of_ble_eq_true rfl)⟩, htl _ mw_715, htl _ mw_716⟩ rfl hl.1 rfl (Nat.le_of_ble_eq_true rfl) dX13_readLaw_132 ⟨(Nat.le_of_ble_eq_true rfl), (Nat.le_of_ble_eq_true rfl)⟩ (fun H locs F G R S hpo hM hS => ?_)
                    obtain ⟨hIF, hIG, hIR, hfr9, hrr9, hgr9, hpo8819, hpo8820, hpo8821, hpo8822, hpo8823, hpo8824, hpo8825, hx8826⟩ := hpo
                    have hFF := mz_fr (K := [14, 15, 16, 18, 19, 21, 23, 26, 29, 30]) (Fa := Fa) hfr9 hFF (by decide)
                    have hRR := mz_fr (K := [22, 24, 25, 27, 28]) (Fa := Ra) hrr9 hRR (by decide)
                    have hGG := mz_fr (K := [17]) (Fa := Ga) hgr9 hGG (by decide)
                    have hg_3 := (hfr9 13 (by decide)).trans hg_3
                    have hf8763 := (hfr9 21 (by decide)).trans hf8763
                    obtain ⟨v8829, hf8828⟩ : ∃ z : Int32, F 14 = z := ⟨_, rfl⟩
                    have hq_v8829 := tk_rng v8829
                    rw [hf8828] at hpo8819 hpo8821 hpo8822 hpo8823 hpo8824
                    have hr_v8829 : 0 ≤ v8829.toInt ∧ v8829.toInt ≤ 400 := hIF.at hf8828
                    obtain ⟨v8831, hf8830⟩ : ∃ z : Int32, F 15 = z := ⟨_, rfl⟩
                    have hq_v8831 := tk_rng v8831
                    rw [hf8830] at hpo8819 hpo8820 hpo8821 hpo8822
                    have hr_v8831 : 0 ≤ v8831.toInt ∧ v8831.toInt ≤ 400 := hIF.at hf8830
                    obtain ⟨v8833, hf8832⟩ : ∃ z : Int32, F 16 = z := ⟨_, rfl⟩
                    have hq_v8833 := tk_rng v8833
                    rw [hf8832] at hpo8821 hpo8822
                    have hr_v8833 : 0 ≤ v8833.toInt ∧ v8833.toInt ≤ 3 := hIF.at hf8832
                    obtain ⟨w8835, hf8834⟩ : ∃ z : Int64, G 17 = z := ⟨_, rfl⟩
                    have hq_w8835 := tk_rngL w8835
                    rw [hf8834] at hpo8822
                    obtain ⟨v8837, hf8836⟩ : ∃ z : Int32, F 19 = z := ⟨_, rfl⟩
                    have hq_v8837 := tk_rng v8837
                    have hr_v8837 : 0 ≤ v8837.toInt ∧ v8837.toInt ≤ 1 := hIF.at hf8836
                    obtain ⟨v8839, hf8838⟩ : ∃ z : Int32, F 23 = z := ⟨_, rfl⟩
                    have hq_v8839 := tk_rng v8839
                    rw [hf8838] at hpo8824 hpo8825
                    have hr_v8839 : 0 ≤ v8839.toInt ∧ v8839.toInt ≤ 400 := hIF.at hf8838
                    have hL22 := hL22.to (hrr9 22 (by decide))
                    have h22_0 := (congrFun (hrr9 22 (by decide)) _).trans h22_0
                    have h22_3 := (congrFun (hrr9 22 (by decide)) _).trans h22_3
                    have hE9 : v8837.toInt = 0 → WFC (R 24) (R 25) gc.toInt.toNat v8839.toInt.toNat ∧ low gc.toInt.toNat _ (R 24) ∧ low gc.toInt.toNat _ (R 25) := fun h9 => by have h8 := hx8826 (by rw [hf8836]; exact h9); rw [hf8838] at h8; exact h8
                    have hC9 := hC (by omega)
                    have hC : v8837.toInt = 0 → CLS 8 [3, 5] (R 24) (R 25) (Ra 22) gc.toInt gn.toInt := fun h9 => hC9.low (N := gc.toInt.toNat) (by omega) (hE9 h9).2.1 (hE9 h9).2.2
                    have hX8840 : v8837.toInt = 0 → WFX (R 24) (R 25) gc v8839 := fun h9 => ⟨by omega, by omega, by omega, (hE9 h9).1⟩
                    refine lv_aload_n hx hb dX13_readLaw_135 rfl (lv_at hl 3 rfl) ?_
                    refine mz_getR hx hb htl hown hK hM 22 (Nat.le_of_ble_eq_true rfl) (Nat.le_of_ble_eq_true rfl) (htl _ mw_197) (fun _ h9 => h9) dX13_readLaw_136 ?_
                    refine lv_iload_n hx hb dX13_readLaw_139 rfl (lv_at hl 1 rfl) ?_
                    refine lv_iconst (v := 4) hx hb dX13_readLaw_140 (by decide) ?_
                    refine lv_iadd hx hb dX13_readLaw_141 ?_
                    refine tk_add rfl (show (4 : Int32).toInt = 4 by decide) (by omega) (by omega) (fun v8841 h_v8841 => ?_)
                    refine lv_aload_n hx hb dX13_readLaw_142 rfl (lv_at hl 3 rfl) ?_
                    refine mz_getI hx hb htl hown hK hM 23 (Nat.le_of_ble_eq_true rfl) rfl (htl _ mw_670) (fun _ h9 => h9) dX13_readLaw_143 (fun v9 e9 => ?_)
                    refine fx_ti (v := v8839) (e9.symm.trans hf8838) ?_
                    refine mz_iast (x := v8839) hx hb hK hD hM hS 22 (Nat.le_of_ble_eq_true rfl) rfl (nn := 96) rfl rfl (by omega) (by omega) dX13_readLaw_146 (fun H locs R hM hS hw9 hj9 => ?_)
                    have hIR := hIR.put hw9 hj9 trivial
                    have hL22 : low (8 * gn.toInt.toNat) (Ra 22) (R 22) := fun j hj => by rw [hw9, pk_un (fun h9 => by have h8 := tk_nat (i := v8841) rfl (by omega); omega)]; exact hL22 j hj
                    have h22_0 : R 22 (8 * gn.toInt.toNat + 0) = v1067 := by rw [hw9, pk_un (fun h9 => by have h8 := tk_nat (i := v8841) rfl (by omega); omega)]; exact h22_0
                    have h22_3 : R 22 (8 * gn.toInt.toNat + 3) = gc := by rw [hw9, pk_un (fun h9 => by have h8 := tk_nat (i := v8841) rfl (by omega); omega)]; exact h22_3
                    have hC9 := hC
                    have hC : v8837.toInt = 0 → CLS 8 [3, 5] (R 24) (R 25) (Ra 22) gc.toInt gn.toInt := fun h9 => (hC9 (by omega)).to (hj9 24 (by decide)) (hj9 25 (by decide))
                    have hX88409 := hX8840
                    have hX8840 : v8837.toInt = 0 → WFX (R 24) (R 25) gc v8839 := fun h9 => by rw [hj9 24 (by decide), hj9 25 (by decide)]; exact hX88409 (by omega)
                    have h22_4 : R 22 (8 * gn.toInt.toNat + 4) = v8839 := by rw [hw9, show 8 * gn.toInt.toNat + 4 = (v8841 : Int32).toNatClampNeg by show _ = v8841.toInt.toNat; omega]; exact pk_us
                    have hRR := mz_frp (K := [22, 24, 25, 27, 28]) (Fa := Ra) hj9 hRR (by decide)
                    refine lv_aload_n hx hb dX13_readLaw_147 rfl (lv_at hl 3 rfl) ?_
                    refine mz_getR hx hb htl hown hK hM 22 (Nat.le_of_ble_eq_true rfl) (Nat.le_of_ble_eq_true rfl) (htl _ mw_197) (fun _ h9 => h9) dX13_readLaw_148 ?_
                    refine lv_iload_n hx hb dX13_readLaw_151 rfl (lv_at hl 1 rfl) ?_
                    refine lv_iconst (v := 5) hx hb dX13_readLaw_152 (by decide) ?_
                    refine lv_iadd hx hb dX13_readLaw_153 ?_
                    refine tk_add rfl (show (5 : Int32).toInt = 5 by decide) (by omega) (by omega) (fun v8843 h_v8843 => ?_)
                    refine lv_aload_n hx hb dX13_readLaw_154 rfl (lv_at hl 3 rfl) ?_
                    refine mz_getI hx hb htl hown hK hM 23 (Nat.le_of_ble_eq_true rfl) rfl (htl _ mw_670) (fun _ h9 => h9) dX13_readLaw_155 (fun v9 e9 => ?_)
                    refine fx_ti (v := v8839) (e9.symm.trans hf8838) ?_
                    refine mz_iast (x := v8839) hx hb hK hD hM hS 22 (Nat.le_of_ble_eq_true rfl) rfl (nn := 96) rfl rfl (by omega) (by omega) dX13_readLaw_158 (fun H locs R hM hS hw9 hj9 => ?_)
                    have hIR := hIR.put hw9 hj9 trivial
                    have hL22 : low (8 * gn.toInt.toNat) (Ra 22) (R 22) := fun j hj => by rw [hw9, pk_un (fun h9 => by have h8 := tk_nat (i := v8843) rfl (by omega); omega)]; exact hL22 j hj
                    have h22_0 : R 22 (8 * gn.toInt.toNat + 0) = v1067 := by rw [hw9, pk_un (fun h9 => by have h8 := tk_nat (i := v8843) rfl (by omega); omega)]; exact h22_0
                    have h22_3 : R 22 (8 * gn.toInt.toNat + 3) = gc := by rw [hw9, pk_un (fun h9 => by have h8 := tk_nat (i := v8843) rfl (by omega); omega)]; exact h22_3
                    have h22_4 : R 22 (8 * gn.toInt.toNat + 4) = v8839 := by rw [hw9, pk_un (fun h9 => by have h8 := tk_nat (i := v8843) rfl (by omega); omega)]; exact h22_4
                    have hC9 := hC
                    have hC : v8837.toInt = 0 → CLS 8 [3, 5] (R 24) (R 25) (Ra 22) gc.toInt gn.toInt := fun h9 => (hC9 (by omega)).to (hj9 24 (by decide)) (hj9 25 (by decide))
                    have hX88409 := hX8840
                    have hX8840 : v8837.toInt = 0 → WFX (R 24) (R 25) gc v8839 := fun h9 => by rw [hj9 24 (by decide), hj9 25 (by decide)]; exact hX88409 (by omega)
                    have h22_5 : R 22 (8 * gn.toInt.toNat + 5) = v8839 := by rw [hw9, show 8 * gn.toInt.toNat + 5 = (v8843 : Int32).toNatClampNeg by show _ = v8843.toInt.toNat; omega]; exact pk_us
                    have hRR := mz_frp (K := [22, 24, 25, 27, 28]) (Fa := Ra) hj9 hRR (by decide)
                    refine lv_aload_n hx hb dX13_readLaw_159 rfl (lv_at hl 3 rfl) ?_
                    refine mz_getI hx hb htl hown hK hM 19 (Nat.le_of_ble_eq_true rfl) rfl (htl _ mw_668) (fun _ h9 => h9) dX13_readLaw_160 (fun v9 e9 => ?_)
                    refine fx_ti (v := v8837) (e9.symm.trans hf8836) ?_
                    refine lv_if_ne (tgt := 185) hx hb dX13_readLaw_163 (by decide) (fun c9 => ?_) (fun c9 => ?_)
                    · have hc8845 : ¬ (v8837.toInt = 0) := fun h9 => c9 ((fi_eq rfl (show (0 : Int32).toInt = 0 by decide)).mpr h9)
                      refine lv_aload_n hx hb dX13_readLaw_185 rfl (lv_at hl 3 rfl) ?_
                      refine mz_getR hx hb htl hown hK hM 22 (Nat.le_of_ble_eq_true rfl) (Nat.le_of_ble_eq_true rfl) (htl _ mw_197) (fun _ h9 => h9) dX13_readLaw_186 ?_
                      refine lv_iload_n hx hb dX13_readLaw_189 rfl (lv_at hl 1 rfl) ?_
                      refine lv_bipush (v := 6) hx hb dX13_readLaw_190 (by decide) ?_
                      refine lv_iadd hx hb dX13_readLaw_192 ?_
                      refine tk_add rfl (show (6 : Int32).toInt = 6 by decide) (by omega) (by omega) (fun v8846 h_v8846 => ?_)
                      refine lv_aload_n hx hb dX13_readLaw_193 rfl (lv_at hl 3 rfl) ?_
                      refine mz_getI hx hb htl hown hK hM 23 (Nat.le_of_ble_eq_true rfl) rfl (htl _ mw_670) (fun _ h9 => h9) dX13_readLaw_194 (fun v9 e9 => ?_)
                      refine fx_ti (v := v8839) (e9.symm.trans hf8838) ?_
                      refine mz_iast (x := v8839) hx hb hK hD hM hS 22 (Nat.le_of_ble_eq_true rfl) rfl (nn := 96) rfl rfl (by omega) (by omega) dX13_readLaw_197 (fun H locs R hM hS hw9 hj9 => ?_)
                      have hIR := hIR.put hw9 hj9 trivial
                      have hL22 : low (8 * gn.toInt.toNat) (Ra 22) (R 22) := fun j hj => by rw [hw9, pk_un (fun h9 => by have h8 := tk_nat (i := v8846) rfl (by omega); omega)]; exact hL22 j hj
                      have h22_0 : R 22 (8 * gn.toInt.toNat + 0) = v1067 := by rw [hw9, pk_un (fun h9 => by have h8 := tk_nat (i := v8846) rfl (by omega); omega)]; exact h22_0
                      have h22_3 : R 22 (8 * gn.toInt.toNat + 3) = gc := by rw [hw9, pk_un (fun h9 => by have h8 := tk_nat (i := v8846) rfl (by omega); omega)]; exact h22_3
                      have h22_4 : R 22 (8 * gn.toInt.toNat + 4) = v8839 := by rw [hw9, pk_un (fun h9 => by have h8 := tk_nat (i := v8846) rfl (by omega); omega)]; exact h22_4
                      have h22_5 : R 22 (8 * gn.toInt.toNat + 5) = v8839 := by rw [hw9, pk_un (fun h9 => by have h8 := tk_nat (i := v8846) rfl (by omega); omega)]; exact h22_5
                      have hC9 := hC
                      have hC : v8837.toInt = 0 → CLS 8 [3, 5] (R 24) (R 25) (Ra 22) gc.toInt gn.toInt := fun h9 => (hC9 (by omega)).to (hj9 24 (by decide)) (hj9 25 (by decide))
                      have hX88409 := hX8840
                      have hX8840 : v8837.toInt = 0 → WFX (R 24) (R 25) gc v8839 := fun h9 => by rw [hj9 24 (by decide), hj9 25 (by decide)]; exact hX88409 (by omega)
                      have h22_6 : R 22 (8 * gn.toInt.toNat + 6) = v8839 := by rw [hw9, show 8 * gn.toInt.toNat + 6 = (v8846 : Int32).toNatClampNeg by show _ = v8846.toInt.toNat; omega]; exact pk_us
                      have hRR := mz_frp (K := [22, 24, 25, 27, 28]) (Fa := Ra) hj9 hRR (by decide)
                      exact mz_vret hx hb hr hlocks ⟨hIF, hIG, hIR, hFF, hRR, hGG, (by rw [hf8828, hf8830]; omega), (by rw [hf8830]; omega), (by rw [hf8828, hf8830, hf8832]; omega), (by rw [hf8828, hf8830, hf8832, hf8834]; omega), (by rw [hf8828]; omega), (by rw [hf8838]; omega), (by rw [hf8828, hf8838]; omega), (by rw [hf8836]; omega), (by rw [hf8828, hf8836]; omega), (by rw [hf8836]; exact fun h9 => absurd h9 (by omega))⟩ hM hS dX13_readLaw_198
                    · have hc8845 : v8837.toInt = 0 := (fi_eq rfl (show (0 : Int32).toInt = 0 by decide)).mp c9
                      refine lv_aload_n hx hb dX13_readLaw_166 rfl (lv_at hl 3 rfl) ?_
                      refine lv_ldc2 hx hb hown (htl _ mw_705) dX13_readLaw_167 ?_
                      have hk_294 : (294 : Int64).toInt = 294 := by decide
                      refine mz_Vj (As := [.long 294]) (rest := []) ⟨hx, hb, hml, hown, hts⟩ hK hM hS (k_X13_isWord l D cy ld ad am hD _ _ _ _ 294 v8833 w8835 hIF hIG hIR hf8832 hf8834) ⟨callB_of 1 hts (wl_in mw_709) rfl rfl rfl (htl _ mw_5) (htl _ mw_706) hd_yX13_isWord ⟨(Nat.le_of_ble_eq_true rfl), (Nat.le_of_ble_eq_true rfl)⟩, htl _ mw_707, htl _ mw_708⟩ rfl hl.1 rfl (Nat.le_of_ble_eq_true rfl) dX13_readLaw_170 ⟨(Nat.le_of_ble_eq_true rfl), (Nat.le_of_ble_eq_true rfl)⟩ (fun v8848 H locs hpo hM hS => ?_)
                      obtain ⟨hpo8849, hpo8850, hpo8851, hpo8852, hpo8853⟩ := hpo
                      have hq_v8848 := tk_rng v8848
                      refine lv_if_eq (tgt := 185) hx hb dX13_readLaw_173 (by decide) (fun c9 => ?_) (fun c9 => ?_)
                      · have hc8855 : v8848.toInt = 0 := (fi_eq rfl (show (0 : Int32).toInt = 0 by decide)).mp c9
                        refine lv_aload_n hx hb dX13_readLaw_185 rfl (lv_at hl 3 rfl) ?_
                        refine mz_getR hx hb htl hown hK hM 22 (Nat.le_of_ble_eq_true rfl) (Nat.le_of_ble_eq_true rfl) (htl _ mw_197) (fun _ h9 => h9) dX13_readLaw_186 ?_
                        refine lv_iload_n hx hb dX13_readLaw_189 rfl (lv_at hl 1 rfl) ?_
                        refine lv_bipush (v := 6) hx hb dX13_readLaw_190 (by decide) ?_
                        refine lv_iadd hx hb dX13_readLaw_192 ?_
                        refine tk_add rfl (show (6 : Int32).toInt = 6 by decide) (by omega) (by omega) (fun v8856 h_v8856 => ?_)
                        refine lv_aload_n hx hb dX13_readLaw_193 rfl (lv_at hl 3 rfl) ?_
                        refine mz_getI hx hb htl hown hK hM 23 (Nat.le_of_ble_eq_true rfl) rfl (htl _ mw_670) (fun _ h9 => h9) dX13_readLaw_194 (fun v9 e9 => ?_)
                        refine fx_ti (v := v8839) (e9.symm.trans hf8838) ?_
                        refine mz_iast (x := v8839) hx hb hK hD hM hS 22 (Nat.le_of_ble_eq_true rfl) rfl (nn := 96) rfl rfl (by omega) (by omega) dX13_readLaw_197 (fun H locs R hM hS hw9 hj9 => ?_)
                        have hIR := hIR.put hw9 hj9 trivial
                        have hL22 : low (8 * gn.toInt.toNat) (Ra 22) (R 22) := fun j hj => by rw [hw9, pk_un (fun h9 => by have h8 := tk_nat (i := v8856) rfl (by omega); omega)]; exact hL22 j hj
                        have h22_0 : R 22 (8 * gn.toInt.toNat + 0) = v1067 := by rw [hw9, pk_un (fun h9 => by have h8 := tk_nat (i := v8856) rfl (by omega); omega)]; exact h22_0
                        have h22_3 : R 22 (8 * gn.toInt.toNat + 3) = gc := by rw [hw9, pk_un (fun h9 => by have h8 := tk_nat (i := v8856) rfl (by omega); omega)]; exact h22_3
                        have h22_4 : R 22 (8 * gn.toInt.toNat + 4) = v8839 := by rw [hw9, pk_un (fun h9 => by have h8 := tk_nat (i := v8856) rfl (by omega); omega)]; exact h22_4
                        have h22_5 : R 22 (8 * gn.toInt.toNat + 5) = v8839 := by rw [hw9, pk_un (fun h9 => by have h8 := tk_nat (i := v8856) rfl (by omega); omega)]; exact h22_5
                        have hC9 := hC
                        have hC : v8837.toInt = 0 → CLS 8 [3, 5] (R 24) (R 25) (Ra 22) gc.toInt gn.toInt := fun h9 => (hC9 (by omega)).to (hj9 24 (by decide)) (hj9 25 (by decide))
                        have hX88409 := hX8840
                        have hX8840 : v8837.toInt = 0 → WFX (R 24) (R 25) gc v8839 := fun h9 => by rw [hj9 24 (by decide), hj9 25 (by decide)]; exact hX88409 (by omega)
                        have h22_6 : R 22 (8 * gn.toInt.toNat + 6) = v8839 := by rw [hw9, show 8 * gn.toInt.toNat + 6 = (v8856 : Int32).toNatClampNeg by show _ = v8856.toInt.toNat; omega]; exact pk_us
                        have hRR := mz_frp (K := [22, 24, 25, 27, 28]) (Fa := Ra) hj9 hRR (by decide)
                        exact mz_vret hx hb hr hlocks ⟨hIF, hIG, hIR, hFF, hRR, hGG, (by rw [hf8828, hf8830]; omega), (by rw [hf8830]; omega), (by rw [hf8828, hf8830, hf8832]; omega), (by rw [hf8828, hf8830, hf8832, hf8834]; omega), (by rw [hf8828]; omega), (by rw [hf8838]; omega), (by rw [hf8828, hf8838]; omega), (by rw [hf8836]; omega), (by rw [hf8828, hf8836]; omega), (by rw [hf8836, hf8838, hf8763]; exact fun h9 => mz_snoc (N := gn.toInt.toNat) (hC h9) (by omega) (by omega) hL22 (by decide) (by omega) (by intro d hd; simp only [List.mem_cons, List.not_mem_nil, or_false] at hd; rcases hd with rfl | rfl <;> first | (rw [show 8 * gn.toInt.toNat + 3 + 1 = 8 * gn.toInt.toNat + 4 from rfl, h22_3, h22_4]; exact ⟨hX8840 h9, by omega⟩) | (rw [show 8 * gn.toInt.toNat + 5 + 1 = 8 * gn.toInt.toNat + 6 from rfl, h22_5, h22_6]; exact ⟨WFX.nil (by omega) (by omega), by omega⟩)))⟩ hM hS dX13_readLaw_198
                      · have hc8855 : ¬ (v8848.toInt = 0) := fun h9 => c9 ((fi_eq rfl (show (0 : Int32).toInt = 0 by decide)).mpr h9)
                        refine lv_aload_n hx hb dX13_readLaw_176 rfl (lv_at hl 3 rfl) ?_
                        refine mz_Vv (As := []) (rest := []) ⟨hx, hb, hml, hown, hts⟩ hK hM hS (k_X13_next l D cy ld ad am hD _ _ _ _ v8831 gp hIF hIG hIR hf8830 hg_3 (by omega)) ⟨callB_of 0 hts (wl_in mw_685) rfl rfl rfl (htl _ mw_5) (htl _ mw_682) hd_yX13_next ⟨(Nat.le_of_ble_eq_true rfl), (Nat.le_of_ble_eq_true rfl)⟩, htl _ mw_683, htl _ mw_684⟩ rfl hl.1 rfl (Nat.le_of_ble_eq_true rfl) dX13_readLaw_177 ⟨(Nat.le_of_ble_eq_true rfl), (Nat.le_of_ble_eq_true rfl)⟩ (fun H locs F G R S hpo hM hS => ?_)
                        obtain ⟨hIF, hIG, hIR, hfr9, hrr9, hgr9, hpo8858, hpo8859, hpo8860, hpo8861, hpo8862⟩ := hpo
                        have hFF := mz_fr (K := [14, 15, 16, 18, 19, 21, 23, 26, 29, 30]) (Fa := Fa) hfr9 hFF (by decide)
                        have hRR := mz_fr (K := [22, 24, 25, 27, 28]) (Fa := Ra) hrr9 hRR (by decide)
                        have hGG := mz_fr (K := [17]) (Fa := Ga) hgr9 hGG (by decide)
                        have hg_3 := (hfr9 13 (by decide)).trans hg_3
                        have hf8763 := (hfr9 21 (by decide)).trans hf8763
                        have hf8836 := (hfr9 19 (by decide)).trans hf8836
                        have hf8838 := (hfr9 23 (by decide)).trans hf8838
                        obtain ⟨v8865, hf8864⟩ : ∃ z : Int32, F 14 = z := ⟨_, rfl⟩
                        have hq_v8865 := tk_rng v8865
                        rw [hf8864] at hpo8858 hpo8859 hpo8861 hpo8862
                        have hr_v8865 : 0 ≤ v8865.toInt ∧ v8865.toInt ≤ 400 := hIF.at hf8864
                        obtain ⟨v8867, hf8866⟩ : ∃ z : Int32, F 15 = z := ⟨_, rfl⟩
                        have hq_v8867 := tk_rng v8867
                        rw [hf8866] at hpo8859 hpo8860 hpo8861 hpo8862
                        have hr_v8867 : 0 ≤ v8867.toInt ∧ v8867.toInt ≤ 400 := hIF.at hf8866
                        obtain ⟨v8869, hf8868⟩ : ∃ z : Int32, F 16 = z := ⟨_, rfl⟩
                        have hq_v8869 := tk_rng v8869
                        rw [hf8868] at hpo8861 hpo8862
                        have hr_v8869 : 0 ≤ v8869.toInt ∧ v8869.toInt ≤ 3 := hIF.at hf8868
                        obtain ⟨w8871, hf8870⟩ : ∃ z : Int64, G 17 = z := ⟨_, rfl⟩
                        have hq_w8871 := tk_rngL w8871
                        rw [hf8870] at hpo8862
                        have hL22 := hL22.to (hrr9 22 (by decide))
                        have h22_0 := (congrFun (hrr9 22 (by decide)) _).trans h22_0
                        have h22_3 := (congrFun (hrr9 22 (by decide)) _).trans h22_3
                        have h22_4 := (congrFun (hrr9 22 (by decide)) _).trans h22_4
                        have h22_5 := (congrFun (hrr9 22 (by decide)) _).trans h22_5
                        have hC9 := hC
                        have hC : v8837.toInt = 0 → CLS 8 [3, 5] (R 24) (R 25) (Ra 22) gc.toInt gn.toInt := fun h9 => (hC9 (by omega)).to (hrr9 24 (by decide)) (hrr9 25 (by decide))
                        have hX88409 := hX8840
                        have hX8840 : v8837.toInt = 0 → WFX (R 24) (R 25) gc v8839 := fun h9 => by rw [hrr9 24 (by decide), hrr9 25 (by decide)]; exact hX88409 (by omega)
                        refine lv_aload_n hx hb dX13_readLaw_180 rfl (lv_at hl 3 rfl) ?_
                        refine lv_iconst (v := 1) hx hb dX13_readLaw_181 (by decide) ?_
                        have hk_1 : (1 : Int32).toInt = 1 := by decide
                        refine mz_Vv (As := [.int 1]) (rest := []) ⟨hx, hb, hml, hown, hts⟩ hK hM hS (k_X13_readExpression l D cy ld ad am hD _ _ _ _ 1 v8865 v8867 v8869 gp w8871 v8837 v8839 hIF hIG hIR hf8864 hf8866 hf8868 hg_3 hf8870 hf8836 hf8838 (by omega) (by omega) (by omega) (by omega) (by omega) (by omega) (by omega) (by omega)) ⟨callB_of 1 hts (wl_in mw_717) rfl rfl rfl (htl _ mw_5) (htl _ mw_714) hd_yX13_readExpression ⟨(Nat.le_of_ble_eq_true rfl), (Nat.le_of_ble_eq_true rfl)⟩, htl _ mw_715, htl _ mw_716⟩ rfl hl.1 rfl (Nat.le_of_ble_eq_true rfl) dX13_readLaw_182 ⟨(Nat.le_of_ble_eq_true rfl), (Nat.le_of_ble_eq_true rfl)⟩ (fun H locs F G R S hpo hM hS => ?_)
                        obtain ⟨hIF, hIG, hIR, hfr9, hrr9, hgr9, hpo8872, hpo8873, hpo8874, hpo8875, hpo8876, hpo8877, hpo8878, hx8879⟩ := hpo
                        have hFF := mz_fr (K := [14, 15, 16, 18, 19, 21, 23, 26, 29, 30]) (Fa := Fa) hfr9 hFF (by decide)
                        have hRR := mz_fr (K := [22, 24, 25, 27, 28]) (Fa := Ra) hrr9 hRR (by decide)
                        have hGG := mz_fr (K := [17]) (Fa := Ga) hgr9 hGG (by decide)
                        have hg_3 := (hfr9 13 (by decide)).trans hg_3
                        have hf8763 := (hfr9 21 (by decide)).trans hf8763
                        obtain ⟨v8882, hf8881⟩ : ∃ z : Int32, F 14 = z := ⟨_, rfl⟩
                        have hq_v8882 := tk_rng v8882
                        rw [hf8881] at hpo8872 hpo8874 hpo8875 hpo8876 hpo8877
                        have hr_v8882 : 0 ≤ v8882.toInt ∧ v8882.toInt ≤ 400 := hIF.at hf8881
                        obtain ⟨v8884, hf8883⟩ : ∃ z : Int32, F 15 = z := ⟨_, rfl⟩
                        have hq_v8884 := tk_rng v8884
                        rw [hf8883] at hpo8872 hpo8873 hpo8874 hpo8875
                        have hr_v8884 : 0 ≤ v8884.toInt ∧ v8884.toInt ≤ 400 := hIF.at hf8883
                        obtain ⟨v8886, hf8885⟩ : ∃ z : Int32, F 16 = z := ⟨_, rfl⟩
                        have hq_v8886 := tk_rng v8886
                        rw [hf8885] at hpo8874 hpo8875
                        have hr_v8886 : 0 ≤ v8886.toInt ∧ v8886.toInt ≤ 3 := hIF.at hf8885
                        obtain ⟨w8888, hf8887⟩ : ∃ z : Int64, G 17 = z := ⟨_, rfl⟩
                        have hq_w8888 := tk_rngL w8888
                        rw [hf8887] at hpo8875
                        obtain ⟨v8890, hf8889⟩ : ∃ z : Int32, F 19 = z := ⟨_, rfl⟩
                        have hq_v8890 := tk_rng v8890
                        have hr_v8890 : 0 ≤ v8890.toInt ∧ v8890.toInt ≤ 1 := hIF.at hf8889
                        obtain ⟨v8892, hf8891⟩ : ∃ z : Int32, F 23 = z := ⟨_, rfl⟩
                        have hq_v8892 := tk_rng v8892
                        rw [hf8891] at hpo8877 hpo8878
                        have hr_v8892 : 0 ≤ v8892.toInt ∧ v8892.toInt ≤ 400 := hIF.at hf8891
                        have hL22 := hL22.to (hrr9 22 (by decide))
                        have h22_0 := (congrFun (hrr9 22 (by decide)) _).trans h22_0
                        have h22_3 := (congrFun (hrr9 22 (by decide)) _).trans h22_3
                        have h22_4 := (congrFun (hrr9 22 (by decide)) _).trans h22_4
                        have h22_5 := (congrFun (hrr9 22 (by decide)) _).trans h22_5
                        have hE9 : v8890.toInt = 0 → WFC (R 24) (R 25) v8839.toInt.toNat v8892.toInt.toNat ∧ low v8839.toInt.toNat _ (R 24) ∧ low v8839.toInt.toNat _ (R 25) := fun h9 => by have h8 := hx8879 (by rw [hf8889]; exact h9); rw [hf8891] at h8; exact h8
                        have hC9 := hC (by omega)
                        have hC : v8890.toInt = 0 → CLS 8 [3, 5] (R 24) (R 25) (Ra 22) gc.toInt gn.toInt := fun h9 => hC9.low (N := v8839.toInt.toNat) (by omega) (hE9 h9).2.1 (hE9 h9).2.2
                        have hX88409 := hX8840 (by omega)
                        have hX8840 : v8890.toInt = 0 → WFX (R 24) (R 25) gc v8839 := fun h9 => hX88409.low (n := v8839.toInt.toNat) (by omega) (hE9 h9).2.1 (hE9 h9).2.2
                        have hX8893 : v8890.toInt = 0 → WFX (R 24) (R 25) v8839 v8892 := fun h9 => ⟨by omega, by omega, by omega, (hE9 h9).1⟩
                        refine lv_aload_n hx hb dX13_readLaw_185 rfl (lv_at hl 3 rfl) ?_
                        refine mz_getR hx hb htl hown hK hM 22 (Nat.le_of_ble_eq_true rfl) (Nat.le_of_ble_eq_true rfl) (htl _ mw_197) (fun _ h9 => h9) dX13_readLaw_186 ?_
                        refine lv_iload_n hx hb dX13_readLaw_189 rfl (lv_at hl 1 rfl) ?_
                        refine lv_bipush (v := 6) hx hb dX13_readLaw_190 (by decide) ?_
                        refine lv_iadd hx hb dX13_readLaw_192 ?_
                        refine tk_add rfl (show (6 : Int32).toInt = 6 by decide) (by omega) (by omega) (fun v8894 h_v8894 => ?_)
                        refine lv_aload_n hx hb dX13_readLaw_193 rfl (lv_at hl 3 rfl) ?_
                        refine mz_getI hx hb htl hown hK hM 23 (Nat.le_of_ble_eq_true rfl) rfl (htl _ mw_670) (fun _ h9 => h9) dX13_readLaw_194 (fun v9 e9 => ?_)
                        refine fx_ti (v := v8892) (e9.symm.trans hf8891) ?_
                        refine mz_iast (x := v8892) hx hb hK hD hM hS 22 (Nat.le_of_ble_eq_true rfl) rfl (nn := 96) rfl rfl (by omega) (by omega) dX13_readLaw_197 (fun H locs R hM hS hw9 hj9 => ?_)
                        have hIR := hIR.put hw9 hj9 trivial
                        have hL22 : low (8 * gn.toInt.toNat) (Ra 22) (R 22) := fun j hj => by rw [hw9, pk_un (fun h9 => by have h8 := tk_nat (i := v8894) rfl (by omega); omega)]; exact hL22 j hj
                        have h22_0 : R 22 (8 * gn.toInt.toNat + 0) = v1067 := by rw [hw9, pk_un (fun h9 => by have h8 := tk_nat (i := v8894) rfl (by omega); omega)]; exact h22_0
                        have h22_3 : R 22 (8 * gn.toInt.toNat + 3) = gc := by rw [hw9, pk_un (fun h9 => by have h8 := tk_nat (i := v8894) rfl (by omega); omega)]; exact h22_3
                        have h22_4 : R 22 (8 * gn.toInt.toNat + 4) = v8839 := by rw [hw9, pk_un (fun h9 => by have h8 := tk_nat (i := v8894) rfl (by omega); omega)]; exact h22_4
                        have h22_5 : R 22 (8 * gn.toInt.toNat + 5) = v8839 := by rw [hw9, pk_un (fun h9 => by have h8 := tk_nat (i := v8894) rfl (by omega); omega)]; exact h22_5
                        have hC9 := hC
                        have hC : v8890.toInt = 0 → CLS 8 [3, 5] (R 24) (R 25) (Ra 22) gc.toInt gn.toInt := fun h9 => (hC9 (by omega)).to (hj9 24 (by decide)) (hj9 25 (by decide))
                        have hX88409 := hX8840
                        have hX8840 : v8890.toInt = 0 → WFX (R 24) (R 25) gc v8839 := fun h9 => by rw [hj9 24 (by decide), hj9 25 (by decide)]; exact hX88409 (by omega)
                        have hX88939 := hX8893
                        have hX8893 : v8890.toInt = 0 → WFX (R 24) (R 25) v8839 v8892 := fun h9 => by rw [hj9 24 (by decide), hj9 25 (by decide)]; exact hX88939 (by omega)
                        have h22_6 : R 22 (8 * gn.toInt.toNat + 6) = v8892 := by rw [hw9, show 8 * gn.toInt.toNat + 6 = (v8894 : Int32).toNatClampNeg by show _ = v8894.toInt.toNat; omega]; exact pk_us
                        have hRR := mz_frp (K := [22, 24, 25, 27, 28]) (Fa := Ra) hj9 hRR (by decide)
                        exact mz_vret hx hb hr hlocks ⟨hIF, hIG, hIR, hFF, hRR, hGG, (by rw [hf8881, hf8883]; omega), (by rw [hf8883]; omega), (by rw [hf8881, hf8883, hf8885]; omega), (by rw [hf8881, hf8883, hf8885, hf8887]; omega), (by rw [hf8881]; omega), (by rw [hf8891]; omega), (by rw [hf8881, hf8891]; omega), (by rw [hf8889]; omega), (by rw [hf8881, hf8889]; omega), (by rw [hf8889, hf8891, hf8763]; exact fun h9 => mz_snoc (N := gn.toInt.toNat) (hC h9) (by omega) (by omega) hL22 (by decide) (by omega) (by intro d hd; simp only [List.mem_cons, List.not_mem_nil, or_false] at hd; rcases hd with rfl | rfl <;> first | (rw [show 8 * gn.toInt.toNat + 3 + 1 = 8 * gn.toInt.toNat + 4 from rfl, h22_3, h22_4]; exact ⟨hX8840 h9, by omega⟩) | (rw [show 8 * gn.toInt.toNat + 5 + 1 = 8 * gn.toInt.toNat + 6 from rfl, h22_5, h22_6]; exact ⟨hX8893 h9, by omega⟩)))⟩ hM hS dX13_readLaw_198
                · have hc8759 : ¬ (8 ≤ v8053.toInt) := fun h9 => c9 ((fi_le (show (8 : Int32).toInt = 8 by decide) rfl).mpr h9)
                  refine lv_aload_n hx hb dX13_readLaw_81 rfl (lv_at hl 3 rfl) ?_
                  refine mz_getR hx hb htl hown hK hM 22 (Nat.le_of_ble_eq_true rfl) (Nat.le_of_ble_eq_true rfl) (htl _ mw_197) (fun _ h9 => h9) dX13_readLaw_82 ?_
                  refine lv_iload_n hx hb dX13_readLaw_85 rfl (lv_at hl 1 rfl) ?_
                  refine lv_iload_n hx hb dX13_readLaw_86 rfl (lv_at hl 0 rfl) ?_
                  refine lv_iadd hx hb dX13_readLaw_87 ?_
                  refine tk_add rfl rfl (by omega) (by omega) (fun v8896 h_v8896 => ?_)
                  refine lv_iconst (v := 0) hx hb dX13_readLaw_88 (by decide) ?_
                  have hk_0 : (0 : Int32).toInt = 0 := by decide
                  refine mz_iast (x := 0) hx hb hK hD hM hS 22 (Nat.le_of_ble_eq_true rfl) rfl (nn := 96) rfl rfl (by omega) (by omega) dX13_readLaw_89 (fun H locs R hM hS hw9 hj9 => ?_)
                  have hIR := hIR.put hw9 hj9 trivial
                  have hL22 : low (8 * gn.toInt.toNat) (Ra 22) (R 22) := fun j hj => by rw [hw9, pk_un (fun h9 => by have h8 := tk_nat (i := v8896) rfl (by omega); omega)]; exact hL22 j hj
                  have hC9 := hC
                  have hC : v8051.toInt = 0 → CLS 8 [3, 5] (R 24) (R 25) (Ra 22) gc.toInt gn.toInt := fun h9 => (hC9 (by omega)).to (hj9 24 (by decide)) (hj9 25 (by decide))
                  have hRR := mz_frp (K := [22, 24, 25, 27, 28]) (Fa := Ra) hj9 hRR (by decide)
                  obtain ⟨v8898, h_v8898, e_v8898⟩ := tk_inc v8053 1 (by decide) (by omega) (by omega)
                  refine lv_iinc (v := v8898) (lv' := [(3, .int v8898), (2, .int v8052), (1, .int v1067), (0, .ref am)]) hx hb dX13_readLaw_90 hl (k := 0) rfl e_v8898 (by decide) rfl (fun ls hl => ?_)
                  refine lv_goto (tgt := 75) hx hb dX13_readLaw_93 (by decide) ?_
                  exact ih_l8758 v8898 _ _ _ (by omega) (by omega) hM hS hIR hRR hL22 hC (by omega) _ (lv_sub hl [0, 1, 2, 3] rfl)
            have hk_0 : (0 : Int32).toInt = 0 := by decide
            exact hl8758 9 0 _ _ _ (by omega) (by omega) hM hS hIR hRR hL22 hC (by omega) _ (lv_sub hl [0, 1, 2, 3] rfl)
      · have hc7990 : ¬ (4 ≤ v1066.toInt) := fun h9 => c9 ((fi_le (show (4 : Int32).toInt = 4 by decide) rfl).mpr h9)
        refine lv_aload_n hx hb dX13_readLaw_9 rfl (lv_at hl 2 rfl) ?_
        refine lv_aload_n hx hb dX13_readLaw_10 rfl (lv_at hl 2 rfl) ?_
        refine mz_getR hx hb htl hown hK hM 33 (Nat.le_of_ble_eq_true rfl) (Nat.le_of_ble_eq_true rfl) (htl _ mw_222) (fun _ h9 => h9) dX13_readLaw_11 ?_
        refine lv_iload_n hx hb dX13_readLaw_14 rfl (lv_at hl 0 rfl) ?_
        refine mz_lald hx hb hK hM 33 (Nat.le_of_ble_eq_true rfl) rfl (nn := 4) rfl rfl (by omega) (by omega) dX13_readLaw_15 (fun w8899 _ => ?_)
        refine mz_Vj (As := [.long w8899]) (rest := []) ⟨hx, hb, hml, hown, hts⟩ hK hM hS (k_X13_isWord l D cy ld ad am hD _ _ _ _ w8899 gs gw hIF hIG hIR hg_2 hg_4) ⟨callB_of 1 hts (wl_in mw_709) rfl rfl rfl (htl _ mw_5) (htl _ mw_706) hd_yX13_isWord ⟨(Nat.le_of_ble_eq_true rfl), (Nat.le_of_ble_eq_true rfl)⟩, htl _ mw_707, htl _ mw_708⟩ rfl hl.1 rfl (Nat.le_of_ble_eq_true rfl) dX13_readLaw_16 ⟨(Nat.le_of_ble_eq_true rfl), (Nat.le_of_ble_eq_true rfl)⟩ (fun v8900 H locs hpo hM hS => ?_)
        obtain ⟨hpo8901, hpo8902, hpo8903, hpo8904, hpo8905⟩ := hpo
        have hq_v8900 := tk_rng v8900
        refine lv_if_eq (tgt := 26) hx hb dX13_readLaw_19 (by decide) (fun c9 => ?_) (fun c9 => ?_)
        · have hc8907 : v8900.toInt = 0 := (fi_eq rfl (show (0 : Int32).toInt = 0 by decide)).mp c9
          refine lv_iload_n hx hb dX13_readLaw_26 rfl (lv_at hl 1 rfl) ?_
          refine lv_istore_n (lv' := [(1, .int v1067), (2, .int v1066), (0, .ref am)]) hx hb dX13_readLaw_27 rfl hl (by decide) rfl (fun ls hl => ?_)
          obtain ⟨v8908, h_v8908, e_v8908⟩ := tk_inc v1066 1 (by decide) (by omega) (by omega)
          refine lv_iinc (v := v8908) (lv' := [(2, .int v8908), (1, .int v1067), (0, .ref am)]) hx hb dX13_readLaw_28 hl (k := 1) rfl e_v8908 (by decide) rfl (fun ls hl => ?_)
          refine lv_goto (tgt := 4) hx hb dX13_readLaw_31 (by decide) ?_
          exact ih_l7989 v8908 v1067 _ _ (by omega) (by omega) (by omega) hM hS (by omega) (by omega) _ (lv_sub hl [0, 1, 2] rfl)
        · have hc8907 : ¬ (v8900.toInt = 0) := fun h9 => c9 ((fi_eq rfl (show (0 : Int32).toInt = 0 by decide)).mpr h9)
          refine lv_iload_n hx hb dX13_readLaw_22 rfl (lv_at hl 0 rfl) ?_
          refine lv_goto (tgt := 27) hx hb dX13_readLaw_23 (by decide) ?_
          refine lv_istore_n (lv' := [(1, .int v1066), (2, .int v1066), (0, .ref am)]) hx hb dX13_readLaw_27 rfl hl (by decide) rfl (fun ls hl => ?_)
          obtain ⟨v8909, h_v8909, e_v8909⟩ := tk_inc v1066 1 (by decide) (by omega) (by omega)
          refine lv_iinc (v := v8909) (lv' := [(2, .int v8909), (1, .int v1066), (0, .ref am)]) hx hb dX13_readLaw_28 hl (k := 1) rfl e_v8909 (by decide) rfl (fun ls hl => ?_)
          refine lv_goto (tgt := 4) hx hb dX13_readLaw_31 (by decide) ?_
          exact ih_l7989 v8909 v1066 _ _ (by omega) (by omega) (by omega) hM hS (by omega) (by omega) _ (lv_sub hl [0, 1, 2] rfl)
  have hk_0 : (0 : Int32).toInt = 0 := by decide
  have hk_m1 : ((-1) : Int32).toInt = (-1) := by decide
  exact hl7989 5 0 (-1) _ _ (by omega) (by omega) (by omega) hM hS (by omega) (by omega) _ (lv_sub hl [0, 1, 2] rfl)
