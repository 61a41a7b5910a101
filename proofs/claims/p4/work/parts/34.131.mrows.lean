theorem hd_yX13_ofPiece : yX13_ofPiece.cls ≠ "java/lang/invoke/MethodHandle" ∧ yX13_ofPiece.cls ≠ "java/lang/invoke/VarHandle" ∧ (parseMethodDescriptor yX13_ofPiece.desc).map (fun d => d.parameters.length) = some 2 := by decide +kernel
theorem dX13_weighMade_0 : decode cX13_weighMade 0 = .ok (.iconst 0, 1) := by decide +kernel
theorem dX13_weighMade_1 : decode cX13_weighMade 1 = .ok (.istore_n 3, 1) := by decide +kernel
theorem dX13_weighMade_2 : decode cX13_weighMade 2 = .ok (.iconst 0, 1) := by decide +kernel
theorem dX13_weighMade_3 : decode cX13_weighMade 3 = .ok (.istore 4, 2) := by decide +kernel
theorem dX13_weighMade_5 : decode cX13_weighMade 5 = .ok (.iconst 0, 1) := by decide +kernel
theorem dX13_weighMade_6 : decode cX13_weighMade 6 = .ok (.istore 5, 2) := by decide +kernel
theorem dX13_weighMade_8 : decode cX13_weighMade 8 = .ok (.iload 5, 2) := by decide +kernel
theorem dX13_weighMade_10 : decode cX13_weighMade 10 = .ok (.iload_n 1, 1) := by decide +kernel
theorem dX13_weighMade_11 : decode cX13_weighMade 11 = .ok (.if_icmp .gt 116, 3) := by decide +kernel
theorem dX13_weighMade_127 : decode cX13_weighMade 127 = .ok (.iload 4, 2) := by decide +kernel
theorem dX13_weighMade_129 : decode cX13_weighMade 129 = .ok (.iload_n 2, 1) := by decide +kernel
theorem dX13_weighMade_130 : decode cX13_weighMade 130 = .ok (.if_icmp .le 5, 3) := by decide +kernel
theorem dX13_weighMade_135 : decode cX13_weighMade 135 = .ok (.iload_n 3, 1) := by decide +kernel
theorem dX13_weighMade_136 : decode cX13_weighMade 136 = .ok (.aload_n 0, 1) := by decide +kernel
theorem dX13_weighMade_137 : decode cX13_weighMade 137 = .ok (.getfield 557, 3) := by decide +kernel
theorem dX13_weighMade_184 : decode cX13_weighMade 184 = .ok (.iconst 1, 1) := by decide +kernel
theorem dX13_weighMade_185 : decode cX13_weighMade 185 = .ok (.ireturn, 1) := by decide +kernel
theorem dX13_weighMade_140 : decode cX13_weighMade 140 = .ok (.if_icmp .le 44, 3) := by decide +kernel
theorem dX13_weighMade_143 : decode cX13_weighMade 143 = .ok (.aload_n 0, 1) := by decide +kernel
theorem dX13_weighMade_144 : decode cX13_weighMade 144 = .ok (.iload_n 3, 1) := by decide +kernel
theorem dX13_weighMade_145 : decode cX13_weighMade 145 = .ok (.putfield 557, 3) := by decide +kernel
theorem dX13_weighMade_148 : decode cX13_weighMade 148 = .ok (.aload_n 0, 1) := by decide +kernel
theorem dX13_weighMade_149 : decode cX13_weighMade 149 = .ok (.iload_n 1, 1) := by decide +kernel
theorem dX13_weighMade_150 : decode cX13_weighMade 150 = .ok (.iconst 1, 1) := by decide +kernel
theorem dX13_weighMade_151 : decode cX13_weighMade 151 = .ok (.iadd, 1) := by decide +kernel
theorem dX13_weighMade_152 : decode cX13_weighMade 152 = .ok (.putfield 560, 3) := by decide +kernel
theorem dX13_weighMade_155 : decode cX13_weighMade 155 = .ok (.iconst 0, 1) := by decide +kernel
theorem dX13_weighMade_156 : decode cX13_weighMade 156 = .ok (.istore 5, 2) := by decide +kernel
theorem dX13_weighMade_158 : decode cX13_weighMade 158 = .ok (.iload 5, 2) := by decide +kernel
theorem dX13_weighMade_160 : decode cX13_weighMade 160 = .ok (.iload_n 1, 1) := by decide +kernel
theorem dX13_weighMade_161 : decode cX13_weighMade 161 = .ok (.if_icmp .gt 23, 3) := by decide +kernel
theorem dX13_weighMade_164 : decode cX13_weighMade 164 = .ok (.aload_n 0, 1) := by decide +kernel
theorem dX13_weighMade_165 : decode cX13_weighMade 165 = .ok (.getfield 143, 3) := by decide +kernel
theorem dX13_weighMade_168 : decode cX13_weighMade 168 = .ok (.iload 5, 2) := by decide +kernel
theorem dX13_weighMade_170 : decode cX13_weighMade 170 = .ok (.aload_n 0, 1) := by decide +kernel
theorem dX13_weighMade_171 : decode cX13_weighMade 171 = .ok (.getfield 140, 3) := by decide +kernel
theorem dX13_weighMade_174 : decode cX13_weighMade 174 = .ok (.iload 5, 2) := by decide +kernel
theorem dX13_weighMade_176 : decode cX13_weighMade 176 = .ok (.iaload, 1) := by decide +kernel
theorem dX13_weighMade_177 : decode cX13_weighMade 177 = .ok (.iastore, 1) := by decide +kernel
theorem dX13_weighMade_178 : decode cX13_weighMade 178 = .ok (.iinc 5 1, 3) := by decide +kernel
theorem dX13_weighMade_181 : decode cX13_weighMade 181 = .ok (.goto (-23), 3) := by decide +kernel
theorem dX13_weighMade_133 : decode cX13_weighMade 133 = .ok (.iconst 0, 1) := by decide +kernel
theorem dX13_weighMade_134 : decode cX13_weighMade 134 = .ok (.ireturn, 1) := by decide +kernel
theorem dX13_weighMade_14 : decode cX13_weighMade 14 = .ok (.iconst 0, 1) := by decide +kernel
theorem dX13_weighMade_15 : decode cX13_weighMade 15 = .ok (.istore 6, 2) := by decide +kernel
theorem dX13_weighMade_17 : decode cX13_weighMade 17 = .ok (.iload 6, 2) := by decide +kernel
theorem dX13_weighMade_19 : decode cX13_weighMade 19 = .ok (.iload 5, 2) := by decide +kernel
theorem dX13_weighMade_21 : decode cX13_weighMade 21 = .ok (.if_icmp .ge 28, 3) := by decide +kernel
theorem dX13_weighMade_49 : decode cX13_weighMade 49 = .ok (.iload_n 3, 1) := by decide +kernel
theorem dX13_weighMade_50 : decode cX13_weighMade 50 = .ok (.aload_n 0, 1) := by decide +kernel
theorem dX13_weighMade_51 : decode cX13_weighMade 51 = .ok (.aload_n 0, 1) := by decide +kernel
theorem dX13_weighMade_52 : decode cX13_weighMade 52 = .ok (.getfield 140, 3) := by decide +kernel
theorem dX13_weighMade_55 : decode cX13_weighMade 55 = .ok (.iload 5, 2) := by decide +kernel
theorem dX13_weighMade_57 : decode cX13_weighMade 57 = .ok (.iaload, 1) := by decide +kernel
theorem dX13_weighMade_58 : decode cX13_weighMade 58 = .ok (.iconst 0, 1) := by decide +kernel
theorem dX13_weighMade_59 : decode cX13_weighMade 59 = .ok (.invokevirtual 554, 3) := by decide +kernel
theorem dX13_weighMade_62 : decode cX13_weighMade 62 = .ok (.iload 5, 2) := by decide +kernel
theorem dX13_weighMade_101 : decode cX13_weighMade 101 = .ok (.iadd, 1) := by decide +kernel
theorem dX13_weighMade_102 : decode cX13_weighMade 102 = .ok (.iadd, 1) := by decide +kernel
theorem dX13_weighMade_103 : decode cX13_weighMade 103 = .ok (.istore_n 3, 1) := by decide +kernel
theorem dX13_weighMade_104 : decode cX13_weighMade 104 = .ok (.iload 4, 2) := by decide +kernel
theorem dX13_weighMade_106 : decode cX13_weighMade 106 = .ok (.aload_n 0, 1) := by decide +kernel
theorem dX13_weighMade_107 : decode cX13_weighMade 107 = .ok (.aload_n 0, 1) := by decide +kernel
theorem dX13_weighMade_108 : decode cX13_weighMade 108 = .ok (.getfield 140, 3) := by decide +kernel
theorem dX13_weighMade_111 : decode cX13_weighMade 111 = .ok (.iload 5, 2) := by decide +kernel
theorem dX13_weighMade_113 : decode cX13_weighMade 113 = .ok (.iaload, 1) := by decide +kernel
theorem dX13_weighMade_114 : decode cX13_weighMade 114 = .ok (.iconst 2, 1) := by decide +kernel
theorem dX13_weighMade_115 : decode cX13_weighMade 115 = .ok (.invokevirtual 554, 3) := by decide +kernel
theorem dX13_weighMade_118 : decode cX13_weighMade 118 = .ok (.iadd, 1) := by decide +kernel
theorem dX13_weighMade_119 : decode cX13_weighMade 119 = .ok (.istore 4, 2) := by decide +kernel
theorem dX13_weighMade_121 : decode cX13_weighMade 121 = .ok (.iinc 5 1, 3) := by decide +kernel
theorem dX13_weighMade_124 : decode cX13_weighMade 124 = .ok (.goto (-116), 3) := by decide +kernel
theorem dX13_weighMade_64 : decode cX13_weighMade 64 = .ok (.ifCond .le 36, 3) := by decide +kernel
theorem dX13_weighMade_100 : decode cX13_weighMade 100 = .ok (.iconst 0, 1) := by decide +kernel
theorem dX13_weighMade_67 : decode cX13_weighMade 67 = .ok (.aload_n 0, 1) := by decide +kernel
theorem dX13_weighMade_68 : decode cX13_weighMade 68 = .ok (.aload_n 0, 1) := by decide +kernel
theorem dX13_weighMade_69 : decode cX13_weighMade 69 = .ok (.getfield 140, 3) := by decide +kernel
theorem dX13_weighMade_72 : decode cX13_weighMade 72 = .ok (.iload 5, 2) := by decide +kernel
theorem dX13_weighMade_74 : decode cX13_weighMade 74 = .ok (.iaload, 1) := by decide +kernel
theorem dX13_weighMade_75 : decode cX13_weighMade 75 = .ok (.iconst 1, 1) := by decide +kernel
theorem dX13_weighMade_76 : decode cX13_weighMade 76 = .ok (.invokevirtual 554, 3) := by decide +kernel
theorem dX13_weighMade_79 : decode cX13_weighMade 79 = .ok (.aload_n 0, 1) := by decide +kernel
theorem dX13_weighMade_80 : decode cX13_weighMade 80 = .ok (.aload_n 0, 1) := by decide +kernel
theorem dX13_weighMade_81 : decode cX13_weighMade 81 = .ok (.getfield 140, 3) := by decide +kernel
theorem dX13_weighMade_84 : decode cX13_weighMade 84 = .ok (.iload 5, 2) := by decide +kernel
theorem dX13_weighMade_86 : decode cX13_weighMade 86 = .ok (.iconst 1, 1) := by decide +kernel
theorem dX13_weighMade_87 : decode cX13_weighMade 87 = .ok (.isub, 1) := by decide +kernel
theorem dX13_weighMade_88 : decode cX13_weighMade 88 = .ok (.iaload, 1) := by decide +kernel
theorem dX13_weighMade_89 : decode cX13_weighMade 89 = .ok (.iconst 1, 1) := by decide +kernel
theorem dX13_weighMade_90 : decode cX13_weighMade 90 = .ok (.invokevirtual 554, 3) := by decide +kernel
theorem dX13_weighMade_93 : decode cX13_weighMade 93 = .ok (.if_icmp .ne 7, 3) := by decide +kernel
theorem dX13_weighMade_96 : decode cX13_weighMade 96 = .ok (.iconst 3, 1) := by decide +kernel
theorem dX13_weighMade_97 : decode cX13_weighMade 97 = .ok (.goto 4, 3) := by decide +kernel
theorem dX13_weighMade_24 : decode cX13_weighMade 24 = .ok (.aload_n 0, 1) := by decide +kernel
theorem dX13_weighMade_25 : decode cX13_weighMade 25 = .ok (.getfield 140, 3) := by decide +kernel
theorem dX13_weighMade_28 : decode cX13_weighMade 28 = .ok (.iload 6, 2) := by decide +kernel
theorem dX13_weighMade_30 : decode cX13_weighMade 30 = .ok (.iaload, 1) := by decide +kernel
theorem dX13_weighMade_31 : decode cX13_weighMade 31 = .ok (.aload_n 0, 1) := by decide +kernel
theorem dX13_weighMade_32 : decode cX13_weighMade 32 = .ok (.getfield 140, 3) := by decide +kernel
theorem dX13_weighMade_35 : decode cX13_weighMade 35 = .ok (.iload 5, 2) := by decide +kernel
theorem dX13_weighMade_37 : decode cX13_weighMade 37 = .ok (.iaload, 1) := by decide +kernel
theorem dX13_weighMade_38 : decode cX13_weighMade 38 = .ok (.if_icmp .ne 5, 3) := by decide +kernel
theorem dX13_weighMade_43 : decode cX13_weighMade 43 = .ok (.iinc 6 1, 3) := by decide +kernel
theorem dX13_weighMade_46 : decode cX13_weighMade 46 = .ok (.goto (-29), 3) := by decide +kernel
theorem dX13_weighMade_41 : decode cX13_weighMade 41 = .ok (.iconst 0, 1) := by decide +kernel
theorem dX13_weighMade_42 : decode cX13_weighMade 42 = .ok (.ireturn, 1) := by decide +kernel
set_option maxHeartbeats 4000000 in
set_option maxRecDepth 100000 in
theorem k_X13_weighMade (l : Launch) (D : va_G) (cy : Nat → ClassId) (ld ad : Nat → Nat) (am : Nat) (hD : mz_D ad am) (Fa : Nat → Int32) (Ga : Nat → Int64) (Ra : Nat → Nat → Int32) (Sa : Nat → Nat → Int64) (p1 : Int32) (p2 : Int32) (hIF : mz_IF true Fa) (hIG : mz_IG Ga) (hIR : mz_IR [] true Ra) (hp_0 : 0 ≤ p1.toInt) (hp_1 : p1.toInt ≤ 3) (hx_0 : ∀ j : Nat, (j : Int) ≤ p1.toInt → -1 ≤ (Ra 55 j).toInt ∧ (Ra 55 j).toInt ≤ 10) : Met l yX13_weighMade (wl yX13_weighMade cX13_weighMade 7 (some .boolean)) ({ frames := 4, cells := 0, slots := 0, locals := 210 }) (mz_p D cy ld ad am Fa Ga Ra Sa [.ref am, .int p1, .int p2]) (mz_i D cy ad am (fun r F G R S => mz_IF true F ∧ mz_IG G ∧ mz_IR [] true R ∧ (∀ k : Nat, k ∉ ([57, 58] : List Nat) → F k = Fa k) ∧ (∀ k : Nat, k ∉ ([56] : List Nat) → R k = Ra k) ∧ (∀ k : Nat, k ∉ ([] : List Nat) → G k = Ga k) ∧ 0 ≤ r.toInt ∧ r.toInt ≤ 1 ∧ 0 ≤ r.toInt ∧ r.toInt ≤ 1)) 0 0 (mz_W ad am) := by
  refine mz_met (y := yX13_weighMade) (cc := cX13_weighMade) (maxL := 7) (ret := (some .boolean)) (av := [.ref am, .int p1, .int p2]) _ (by decide) (Nat.le_of_ble_eq_true rfl) ?_
  intro p e s m args below meth c hx hb hr hml hts htl hown hlocks hK H locs hM hS ls hl
  have hown : s.vm.findClass RX13 = some m.cls := hown
  have hl : lv_has ls 7 [(0, .ref am), (1, .int p1), (2, .int p2)] := hl
  have hr_p1 := tk_rng p1
  have hr_p2 := tk_rng p2
  refine lv_iconst (v := 0) hx hb dX13_weighMade_0 (by decide) ?_
  refine lv_istore_n (lv' := [(3, .int 0), (0, .ref am), (1, .int p1), (2, .int p2)]) hx hb dX13_weighMade_1 rfl hl (by decide) rfl (fun ls hl => ?_)
  refine lv_iconst (v := 0) hx hb dX13_weighMade_2 (by decide) ?_
  refine lv_istore (lv' := [(4, .int 0), (3, .int 0), (0, .ref am), (1, .int p1), (2, .int p2)]) hx hb dX13_weighMade_3 hl (by decide) rfl (fun ls hl => ?_)
  refine lv_iconst (v := 0) hx hb dX13_weighMade_5 (by decide) ?_
  refine lv_istore (lv' := [(5, .int 0), (4, .int 0), (3, .int 0), (0, .ref am), (1, .int p1), (2, .int p2)]) hx hb dX13_weighMade_6 hl (by decide) rfl (fun ls hl => ?_)
  have hl1748 : ∀ (N_l1748 : Nat) (v387 : Int32) (v388 : Int32) (v389 : Int32) (H : Heap) (locs : List Loc), (0 ≤ p1.toInt + (-1) * v387.toInt + 1) → (0 ≤ v387.toInt) → (mz_S D cy ad am Fa Ga Ra Sa H) → (va_S (mz_W ad am) s.heap H locs) → ((-1) * v387.toInt + 4 < (N_l1748 : Int)) → ∀ ls : Array Slot, lv_has ls 7 [(5, .int v387), (4, .int v388), (3, .int v389), (0, .ref am), (1, .int p1), (2, .int p2)] → W p l e ({ frames := 4, cells := 0, slots := 0, locals := 210 }) s m args below meth c H locs 0 0 (MQ below (mz_i D cy ad am (fun r F G R S => mz_IF true F ∧ mz_IG G ∧ mz_IR [] true R ∧ (∀ k : Nat, k ∉ ([57, 58] : List Nat) → F k = Fa k) ∧ (∀ k : Nat, k ∉ ([56] : List Nat) → R k = Ra k) ∧ (∀ k : Nat, k ∉ ([] : List Nat) → G k = Ga k) ∧ 0 ≤ r.toInt ∧ r.toInt ≤ 1 ∧ 0 ≤ r.toInt ∧ r.toInt ≤ 1)) args s 0 0 (mz_W ad am)) (F0 m 8 ls []) := by
    intro N_l1748
    induction N_l1748 with
    | zero => intro v387 v388 v389 H locs hq0_l1748 hq1_l1748 hM hS hm_l1748 ls hl; exfalso; omega
    | succ N_l1748 ih_l1748 =>
      intro v387 v388 v389 H locs hq0_l1748 hq1_l1748 hM hS hm_l1748 ls hl
      refine lv_iload hx hb dX13_weighMade_8 (lv_at hl 0 rfl) ?_
      refine lv_iload_n hx hb dX13_weighMade_10 rfl (lv_at hl 4 rfl) ?_
      refine lv_icmp_gt (tgt := 127) hx hb dX13_weighMade_11 (by decide) (fun c9 => ?_) (fun c9 => ?_)
      · have hc1749 : p1.toInt < v387.toInt := (fi_lt rfl rfl).mp c9
        refine lv_iload hx hb dX13_weighMade_127 (lv_at hl 1 rfl) ?_
        refine lv_iload_n hx hb dX13_weighMade_129 rfl (lv_at hl 5 rfl) ?_
        refine lv_icmp_le (tgt := 135) hx hb dX13_weighMade_130 (by decide) (fun c9 => ?_) (fun c9 => ?_)
        · have hc1750 : v388.toInt ≤ p2.toInt := (fi_le rfl rfl).mp c9
          refine lv_iload_n hx hb dX13_weighMade_135 rfl (lv_at hl 2 rfl) ?_
          refine lv_aload_n hx hb dX13_weighMade_136 rfl (lv_at hl 3 rfl) ?_
          refine mz_getI hx hb htl hown hK hM 58 (Nat.le_of_ble_eq_true rfl) rfl (htl _ mw_1471) (fun _ h9 => h9) dX13_weighMade_137 (fun v1752 hf1751 => ?_)
          have hq_v1752 := tk_rng v1752
          have hj1797 : ∀ (v1795 : Int32) (H : Heap) (locs : List Loc) (F : Nat → Int32) (R : Nat → Nat → Int32), (0 ≤ v1795.toInt + (-1) * v389.toInt) → (0 ≤ (-1) * v1752.toInt + v1795.toInt) → (mz_S D cy ad am F Ga R Sa H) → (va_S (mz_W ad am) s.heap H locs) → (mz_IF true F) → (mz_IR [] true R) → (∀ k : Nat, k ∉ ([57, 58] : List Nat) → F k = Fa k) → (∀ k : Nat, k ∉ ([56] : List Nat) → R k = Ra k) → (F 58 = v1795) → ∀ ls : Array Slot, lv_has ls 7 [] → W p l e ({ frames := 4, cells := 0, slots := 0, locals := 210 }) s m args below meth c H locs 0 0 (MQ below (mz_i D cy ad am (fun r F G R S => mz_IF true F ∧ mz_IG G ∧ mz_IR [] true R ∧ (∀ k : Nat, k ∉ ([57, 58] : List Nat) → F k = Fa k) ∧ (∀ k : Nat, k ∉ ([56] : List Nat) → R k = Ra k) ∧ (∀ k : Nat, k ∉ ([] : List Nat) → G k = Ga k) ∧ 0 ≤ r.toInt ∧ r.toInt ≤ 1 ∧ 0 ≤ r.toInt ∧ r.toInt ≤ 1)) args s 0 0 (mz_W ad am)) (F0 m 184 ls []) := by
            intro v1795 H locs F R hq0_j1797 hq1_j1797 hM hS hIF hIR hFF hRR hf1751 ls hl
            have hq_v1795 := tk_rng v1795
            refine lv_iconst (v := 1) hx hb dX13_weighMade_184 (by decide) ?_
            have hk_1 : (1 : Int32).toInt = 1 := by decide
            exact mz_iret (v := 1) hx hb hr rfl hlocks ⟨hIF, hIG, hIR, hFF, hRR, (fun _ _ => rfl), (by omega), (by omega), (by omega), (by omega)⟩ hM hS dX13_weighMade_185
          refine lv_icmp_le (tgt := 184) hx hb dX13_weighMade_140 (by decide) (fun c9 => ?_) (fun c9 => ?_)
          · have hc1753 : v389.toInt ≤ v1752.toInt := (fi_le rfl rfl).mp c9
            exact hj1797 v1752 _ _ _ _ (by omega) (by omega) hM hS hIF hIR (fun _ _ => rfl) (fun _ _ => rfl) hf1751 _ (lv_sub hl [] rfl)
          · have hc1753 : ¬ (v389.toInt ≤ v1752.toInt) := fun h9 => c9 ((fi_le rfl rfl).mpr h9)
            refine lv_aload_n hx hb dX13_weighMade_143 rfl (lv_at hl 3 rfl) ?_
            refine lv_iload_n hx hb dX13_weighMade_144 rfl (lv_at hl 2 rfl) ?_
            refine mz_putI (ty := .int) (x := v389) hx hb htl hown hK hD hM hS 58 (Nat.le_of_ble_eq_true rfl) rfl (htl _ mw_1471) (fun _ h9 => h9) rfl (tyX13_ok 58 (by decide)) rfl rfl dX13_weighMade_145 (fun H locs F hM hS hf9 hj9 => ?_)
            have hIF := hIF.put hf9 hj9 (tk_rng _).1 (tk_rng _).2 (by decide)
            have hFF := mz_frp (K := [57, 58]) (Fa := Fa) hj9 (fun _ _ => rfl) (by decide)
            have hf1799 := hf9
            refine lv_aload_n hx hb dX13_weighMade_148 rfl (lv_at hl 3 rfl) ?_
            refine lv_iload_n hx hb dX13_weighMade_149 rfl (lv_at hl 4 rfl) ?_
            refine lv_iconst (v := 1) hx hb dX13_weighMade_150 (by decide) ?_
            refine lv_iadd hx hb dX13_weighMade_151 ?_
            refine tk_add rfl (show (1 : Int32).toInt = 1 by decide) (by omega) (by omega) (fun v1800 h_v1800 => ?_)
            refine mz_putI (ty := .int) (x := v1800) hx hb htl hown hK hD hM hS 57 (Nat.le_of_ble_eq_true rfl) rfl (htl _ mw_1472) (fun _ h9 => h9) rfl (tyX13_ok 57 (by decide)) rfl rfl dX13_weighMade_152 (fun H locs F hM hS hf9 hj9 => ?_)
            have hIF := hIF.put hf9 hj9 (show 0 ≤ (v1800 : Int32).toInt by omega) (show (v1800 : Int32).toInt ≤ 4 by omega) (by decide)
            have hFF := mz_frp (K := [57, 58]) (Fa := Fa) hj9 hFF (by decide)
            have hf1799 := (hj9 58 (by decide)).trans hf1799
            have hf1802 := hf9
            refine lv_iconst (v := 0) hx hb dX13_weighMade_155 (by decide) ?_
            refine lv_istore (lv' := [(5, .int 0), (4, .int v388), (3, .int v389), (0, .ref am), (1, .int p1), (2, .int p2)]) hx hb dX13_weighMade_156 hl (by decide) rfl (fun ls hl => ?_)
            have hl1832 : ∀ (N_l1832 : Nat) (v1803 : Int32) (H : Heap) (locs : List Loc) (R : Nat → Nat → Int32), (0 ≤ v1800.toInt + (-1) * v1803.toInt) → (0 ≤ v1803.toInt) → (mz_S D cy ad am F Ga R Sa H) → (va_S (mz_W ad am) s.heap H locs) → (mz_IR [] true R) → (∀ k : Nat, k ∉ ([56] : List Nat) → R k = Ra k) → ((-1) * v1803.toInt + 4 < (N_l1832 : Int)) → ∀ ls : Array Slot, lv_has ls 7 [(5, .int v1803), (0, .ref am), (1, .int p1)] → W p l e ({ frames := 4, cells := 0, slots := 0, locals := 210 }) s m args below meth c H locs 0 0 (MQ below (mz_i D cy ad am (fun r F G R S => mz_IF true F ∧ mz_IG G ∧ mz_IR [] true R ∧ (∀ k : Nat, k ∉ ([57, 58] : List Nat) → F k = Fa k) ∧ (∀ k : Nat, k ∉ ([56] : List Nat) → R k = Ra k) ∧ (∀ k : Nat, k ∉ ([] : List Nat) → G k = Ga k) ∧ 0 ≤ r.toInt ∧ r.toInt ≤ 1 ∧ 0 ≤ r.toInt ∧ r.toInt ≤ 1)) args s 0 0 (mz_W ad am)) (F0 m 158 ls []) := by
              intro N_l1832
              induction N_l1832 with
              | zero => intro v1803 H locs R hq0_l1832 hq1_l1832 hM hS hIR hRR hm_l1832 ls hl; exfalso; omega
              | succ N_l1832 ih_l1832 =>
                intro v1803 H locs R hq0_l1832 hq1_l1832 hM hS hIR hRR hm_l1832 ls hl
                refine lv_iload hx hb dX13_weighMade_158 (lv_at hl 0 rfl) ?_
                refine lv_iload_n hx hb dX13_weighMade_160 rfl (lv_at hl 2 rfl) ?_
                refine lv_icmp_gt (tgt := 184) hx hb dX13_weighMade_161 (by decide) (fun c9 => ?_) (fun c9 => ?_)
                · have hc1833 : p1.toInt < v1803.toInt := (fi_lt rfl rfl).mp c9
                  exact hj1797 v389 _ _ _ _ (by omega) (by omega) hM hS hIF hIR hFF hRR hf1799 _ (lv_sub hl [] rfl)
                · have hc1833 : ¬ (p1.toInt < v1803.toInt) := fun h9 => c9 ((fi_lt rfl rfl).mpr h9)
                  refine lv_aload_n hx hb dX13_weighMade_164 rfl (lv_at hl 1 rfl) ?_
                  refine mz_getR hx hb htl hown hK hM 56 (Nat.le_of_ble_eq_true rfl) (Nat.le_of_ble_eq_true rfl) (htl _ mw_237) (fun _ h9 => h9) dX13_weighMade_165 ?_
                  refine lv_iload hx hb dX13_weighMade_168 (lv_at hl 0 rfl) ?_
                  refine lv_aload_n hx hb dX13_weighMade_170 rfl (lv_at hl 1 rfl) ?_
                  refine mz_getR hx hb htl hown hK hM 55 (Nat.le_of_ble_eq_true rfl) (Nat.le_of_ble_eq_true rfl) (htl _ mw_236) (fun _ h9 => h9) dX13_weighMade_171 ?_
                  refine lv_iload hx hb dX13_weighMade_174 (lv_at hl 0 rfl) ?_
                  refine mz_iald hx hb hK hM 55 (Nat.le_of_ble_eq_true rfl) rfl (nn := 4) rfl rfl (by omega) (by omega) dX13_weighMade_176 (fun v1834 e_v1834 => ?_)
                  have hq_v1834 := tk_rng v1834
                  refine mz_iast (x := v1834) hx hb hK hD hM hS 56 (Nat.le_of_ble_eq_true rfl) rfl (nn := 4) rfl rfl (by omega) (by omega) dX13_weighMade_177 (fun H locs R hM hS hw9 hj9 => ?_)
                  have hIR := hIR.put hw9 hj9 trivial
                  have hRR := mz_frp (K := [56]) (Fa := Ra) hj9 hRR (by decide)
                  have e_v1834 : R 55 (v1803 : Int32).toNatClampNeg = _ := (congrFun (hj9 55 (by decide)) _).trans e_v1834
                  obtain ⟨v1836, h_v1836, e_v1836⟩ := tk_inc v1803 1 (by decide) (by omega) (by omega)
                  refine lv_iinc (v := v1836) (lv' := [(5, .int v1836), (0, .ref am), (1, .int p1)]) hx hb dX13_weighMade_178 hl (k := 0) rfl e_v1836 (by decide) rfl (fun ls hl => ?_)
                  refine lv_goto (tgt := 158) hx hb dX13_weighMade_181 (by decide) ?_
                  exact ih_l1832 v1836 _ _ _ (by omega) (by omega) hM hS hIR hRR (by omega) _ (lv_sub hl [0, 1, 2] rfl)
            have hk_0 : (0 : Int32).toInt = 0 := by decide
            exact hl1832 5 0 _ _ _ (by omega) (by omega) hM hS hIR (fun _ _ => rfl) (by omega) _ (lv_sub hl [0, 3, 4] rfl)
        · have hc1750 : ¬ (v388.toInt ≤ p2.toInt) := fun h9 => c9 ((fi_le rfl rfl).mpr h9)
          refine lv_iconst (v := 0) hx hb dX13_weighMade_133 (by decide) ?_
          have hk_0 : (0 : Int32).toInt = 0 := by decide
          exact mz_iret (v := 0) hx hb hr rfl hlocks ⟨hIF, hIG, hIR, (fun _ _ => rfl), (fun _ _ => rfl), (fun _ _ => rfl), (by omega), (by omega), (by omega), (by omega)⟩ hM hS dX13_weighMade_134
      · have hc1749 : ¬ (p1.toInt < v387.toInt) := fun h9 => c9 ((fi_lt rfl rfl).mpr h9)
        refine lv_iconst (v := 0) hx hb dX13_weighMade_14 (by decide) ?_
        refine lv_istore (lv' := [(6, .int 0), (5, .int v387), (4, .int v388), (3, .int v389), (0, .ref am), (1, .int p1), (2, .int p2)]) hx hb dX13_weighMade_15 hl (by decide) rfl (fun ls hl => ?_)
        have hl2027 : ∀ (N_l2027 : Nat) (v1837 : Int32), (0 ≤ v1837.toInt) → (0 ≤ (-1) * v1837.toInt + v387.toInt) → ((-1) * v1837.toInt + 3 < (N_l2027 : Int)) → ∀ ls : Array Slot, lv_has ls 7 [(6, .int v1837), (5, .int v387), (4, .int v388), (3, .int v389), (0, .ref am), (1, .int p1), (2, .int p2)] → W p l e ({ frames := 4, cells := 0, slots := 0, locals := 210 }) s m args below meth c H locs 0 0 (MQ below (mz_i D cy ad am (fun r F G R S => mz_IF true F ∧ mz_IG G ∧ mz_IR [] true R ∧ (∀ k : Nat, k ∉ ([57, 58] : List Nat) → F k = Fa k) ∧ (∀ k : Nat, k ∉ ([56] : List Nat) → R k = Ra k) ∧ (∀ k : Nat, k ∉ ([] : List Nat) → G k = Ga k) ∧ 0 ≤ r.toInt ∧ r.toInt ≤ 1 ∧ 0 ≤ r.toInt ∧ r.toInt ≤ 1)) args s 0 0 (mz_W ad am)) (F0 m 17 ls []) := by
          intro N_l2027
          induction N_l2027 with
          | zero => intro v1837 hq0_l2027 hq1_l2027 hm_l2027 ls hl; exfalso; omega
          | succ N_l2027 ih_l2027 =>
            intro v1837 hq0_l2027 hq1_l2027 hm_l2027 ls hl
            refine lv_iload hx hb dX13_weighMade_17 (lv_at hl 0 rfl) ?_
            refine lv_iload hx hb dX13_weighMade_19 (lv_at hl 1 rfl) ?_
            refine lv_icmp_ge (tgt := 49) hx hb dX13_weighMade_21 (by decide) (fun c9 => ?_) (fun c9 => ?_)
            · have hc2028 : v387.toInt ≤ v1837.toInt := (fi_le rfl rfl).mp c9
              refine lv_iload_n hx hb dX13_weighMade_49 rfl (lv_at hl 3 rfl) ?_
              refine lv_aload_n hx hb dX13_weighMade_50 rfl (lv_at hl 4 rfl) ?_
              refine lv_aload_n hx hb dX13_weighMade_51 rfl (lv_at hl 4 rfl) ?_
              refine mz_getR hx hb htl hown hK hM 55 (Nat.le_of_ble_eq_true rfl) (Nat.le_of_ble_eq_true rfl) (htl _ mw_236) (fun _ h9 => h9) dX13_weighMade_52 ?_
              refine lv_iload hx hb dX13_weighMade_55 (lv_at hl 1 rfl) ?_
              refine mz_iald hx hb hK hM 55 (Nat.le_of_ble_eq_true rfl) rfl (nn := 4) rfl rfl (by omega) (by omega) dX13_weighMade_57 (fun v2029 e_v2029 => ?_)
              have hq_v2029 := tk_rng v2029
              have hch_v2029 : (-1) ≤ v2029.toInt ∧ v2029.toInt ≤ 10 := by have h9 := hx_0 v387.toInt.toNat (by omega); rw [show Ra 55 v387.toInt.toNat = v2029 from e_v2029] at h9; exact h9
              refine lv_iconst (v := 0) hx hb dX13_weighMade_58 (by decide) ?_
              have hk_0 : (0 : Int32).toInt = 0 := by decide
              refine mz_Vj (As := [.int v2029, .int 0]) (rest := [.int v389]) ⟨hx, hb, hml, hown, hts⟩ hK hM hS (k_X13_ofPiece l D cy ld ad am hD _ _ _ _ v2029 0 (hIF.weak) hIG hIR (by omega) (by omega) (by omega) (by omega)) ⟨callB_of 2 hts (wl_in mw_1480) rfl rfl rfl (htl _ mw_5) (htl _ mw_1477) hd_yX13_ofPiece ⟨(Nat.le_of_ble_eq_true rfl), (Nat.le_of_ble_eq_true rfl)⟩, htl _ mw_1478, htl _ mw_1479⟩ rfl hl.1 rfl (Nat.le_of_ble_eq_true rfl) dX13_weighMade_59 ⟨(Nat.le_of_ble_eq_true rfl), (Nat.le_of_ble_eq_true rfl)⟩ (fun v2030 H locs hpo hM hS => ?_)
              have hq_v2030 := tk_rng v2030
              refine lv_iload hx hb dX13_weighMade_62 (lv_at hl 1 rfl) ?_
              have hj2044 : ∀ (v2042 : Int32) (H : Heap) (locs : List Loc), (0 ≤ v2042.toInt) → (v2042.toInt ≤ 3) → (mz_S D cy ad am Fa Ga Ra Sa H) → (va_S (mz_W ad am) s.heap H locs) → ∀ ls : Array Slot, lv_has ls 7 [(5, .int v387), (4, .int v388), (0, .ref am), (1, .int p1), (2, .int p2)] → W p l e ({ frames := 4, cells := 0, slots := 0, locals := 210 }) s m args below meth c H locs 0 0 (MQ below (mz_i D cy ad am (fun r F G R S => mz_IF true F ∧ mz_IG G ∧ mz_IR [] true R ∧ (∀ k : Nat, k ∉ ([57, 58] : List Nat) → F k = Fa k) ∧ (∀ k : Nat, k ∉ ([56] : List Nat) → R k = Ra k) ∧ (∀ k : Nat, k ∉ ([] : List Nat) → G k = Ga k) ∧ 0 ≤ r.toInt ∧ r.toInt ≤ 1 ∧ 0 ≤ r.toInt ∧ r.toInt ≤ 1)) args s 0 0 (mz_W ad am)) (F0 m 101 ls [.int v2042, .int v2030, .int v389]) := by
                intro v2042 H locs hq0_j2044 hq1_j2044 hM hS ls hl
                refine lv_iadd hx hb dX13_weighMade_101 ?_
                obtain ⟨v2045, hm_v2045⟩ : ∃ z : Int32, v2030 + v2042 = z := ⟨_, rfl⟩
                refine fx_ti hm_v2045 ?_
                refine lv_iadd hx hb dX13_weighMade_102 ?_
                obtain ⟨v2046, hm_v2046⟩ : ∃ z : Int32, v389 + v2045 = z := ⟨_, rfl⟩
                refine fx_ti hm_v2046 ?_
                refine lv_istore_n (lv' := [(3, .int v2046), (5, .int v387), (4, .int v388), (0, .ref am), (1, .int p1), (2, .int p2)]) hx hb dX13_weighMade_103 rfl hl (by decide) rfl (fun ls hl => ?_)
                refine lv_iload hx hb dX13_weighMade_104 (lv_at hl 2 rfl) ?_
                refine lv_aload_n hx hb dX13_weighMade_106 rfl (lv_at hl 3 rfl) ?_
                refine lv_aload_n hx hb dX13_weighMade_107 rfl (lv_at hl 3 rfl) ?_
                refine mz_getR hx hb htl hown hK hM 55 (Nat.le_of_ble_eq_true rfl) (Nat.le_of_ble_eq_true rfl) (htl _ mw_236) (fun _ h9 => h9) dX13_weighMade_108 ?_
                refine lv_iload hx hb dX13_weighMade_111 (lv_at hl 1 rfl) ?_
                refine mz_iald hx hb hK hM 55 (Nat.le_of_ble_eq_true rfl) rfl (nn := 4) rfl rfl (by omega) (by omega) dX13_weighMade_113 (fun v2047 e_v2047 => ?_)
                have hq_v2047 := tk_rng v2047
                have hch_v2047 : (-1) ≤ v2047.toInt ∧ v2047.toInt ≤ 10 := by have h9 := hx_0 v387.toInt.toNat (by omega); rw [show Ra 55 v387.toInt.toNat = v2047 from e_v2047] at h9; exact h9
                refine lv_iconst (v := 2) hx hb dX13_weighMade_114 (by decide) ?_
                have hk_2 : (2 : Int32).toInt = 2 := by decide
                refine mz_Vj (As := [.int v2047, .int 2]) (rest := [.int v388]) ⟨hx, hb, hml, hown, hts⟩ hK hM hS (k_X13_ofPiece l D cy ld ad am hD _ _ _ _ v2047 2 (hIF.weak) hIG hIR (by omega) (by omega) (by omega) (by omega)) ⟨callB_of 2 hts (wl_in mw_1480) rfl rfl rfl (htl _ mw_5) (htl _ mw_1477) hd_yX13_ofPiece ⟨(Nat.le_of_ble_eq_true rfl), (Nat.le_of_ble_eq_true rfl)⟩, htl _ mw_1478, htl _ mw_1479⟩ rfl hl.1 rfl (Nat.le_of_ble_eq_true rfl) dX13_weighMade_115 ⟨(Nat.le_of_ble_eq_true rfl), (Nat.le_of_ble_eq_true rfl)⟩ (fun v2048 H locs hpo hM hS => ?_)
                have hq_v2048 := tk_rng v2048
                refine lv_iadd hx hb dX13_weighMade_118 ?_
                obtain ⟨v2050, hm_v2050⟩ : ∃ z : Int32, v388 + v2048 = z := ⟨_, rfl⟩
                refine fx_ti hm_v2050 ?_
                refine lv_istore (lv' := [(4, .int v2050), (3, .int v2046), (5, .int v387), (0, .ref am), (1, .int p1), (2, .int p2)]) hx hb dX13_weighMade_119 hl (by decide) rfl (fun ls hl => ?_)
                obtain ⟨v2051, h_v2051, e_v2051⟩ := tk_inc v387 1 (by decide) (by omega) (by omega)
                refine lv_iinc (v := v2051) (lv' := [(5, .int v2051), (4, .int v2050), (3, .int v2046), (0, .ref am), (1, .int p1), (2, .int p2)]) hx hb dX13_weighMade_121 hl (k := 2) rfl e_v2051 (by decide) rfl (fun ls hl => ?_)
                refine lv_goto (tgt := 8) hx hb dX13_weighMade_124 (by decide) ?_
                exact ih_l1748 v2051 v2050 v2046 _ _ (by omega) (by omega) hM hS (by omega) _ (lv_sub hl [0, 1, 2, 3, 4, 5] rfl)
              refine lv_if_le (tgt := 100) hx hb dX13_weighMade_64 (by decide) (fun c9 => ?_) (fun c9 => ?_)
              · have hc2032 : v387.toInt ≤ 0 := (fi_le rfl (show (0 : Int32).toInt = 0 by decide)).mp c9
                refine lv_iconst (v := 0) hx hb dX13_weighMade_100 (by decide) ?_
                have hk_0 : (0 : Int32).toInt = 0 := by decide
                exact hj2044 0 _ _ (by omega) (by omega) hM hS _ (lv_sub hl [1, 2, 4, 5, 6] rfl)
              · have hc2032 : ¬ (v387.toInt ≤ 0) := fun h9 => c9 ((fi_le rfl (show (0 : Int32).toInt = 0 by decide)).mpr h9)
                refine lv_aload_n hx hb dX13_weighMade_67 rfl (lv_at hl 4 rfl) ?_
                refine lv_aload_n hx hb dX13_weighMade_68 rfl (lv_at hl 4 rfl) ?_
                refine mz_getR hx hb htl hown hK hM 55 (Nat.le_of_ble_eq_true rfl) (Nat.le_of_ble_eq_true rfl) (htl _ mw_236) (fun _ h9 => h9) dX13_weighMade_69 ?_
                refine lv_iload hx hb dX13_weighMade_72 (lv_at hl 1 rfl) ?_
                refine mz_iald hx hb hK hM 55 (Nat.le_of_ble_eq_true rfl) rfl (nn := 4) rfl rfl (by omega) (by omega) dX13_weighMade_74 (fun v9 e9 => ?_)
                refine fx_ti (v := v2029) (e9.symm.trans e_v2029) ?_
                refine lv_iconst (v := 1) hx hb dX13_weighMade_75 (by decide) ?_
                have hk_1 : (1 : Int32).toInt = 1 := by decide
                refine mz_Vj (As := [.int v2029, .int 1]) (rest := [.int v2030, .int v389]) ⟨hx, hb, hml, hown, hts⟩ hK hM hS (k_X13_ofPiece l D cy ld ad am hD _ _ _ _ v2029 1 (hIF.weak) hIG hIR (by omega) (by omega) (by omega) (by omega)) ⟨callB_of 2 hts (wl_in mw_1480) rfl rfl rfl (htl _ mw_5) (htl _ mw_1477) hd_yX13_ofPiece ⟨(Nat.le_of_ble_eq_true rfl), (Nat.le_of_ble_eq_true rfl)⟩, htl _ mw_1478, htl _ mw_1479⟩ rfl hl.1 rfl (Nat.le_of_ble_eq_true rfl) dX13_weighMade_76 ⟨(Nat.le_of_ble_eq_true rfl), (Nat.le_of_ble_eq_true rfl)⟩ (fun v2052 H locs hpo hM hS => ?_)
                have hq_v2052 := tk_rng v2052
                refine lv_aload_n hx hb dX13_weighMade_79 rfl (lv_at hl 4 rfl) ?_
                refine lv_aload_n hx hb dX13_weighMade_80 rfl (lv_at hl 4 rfl) ?_
                refine mz_getR hx hb htl hown hK hM 55 (Nat.le_of_ble_eq_true rfl) (Nat.le_of_ble_eq_true rfl) (htl _ mw_236) (fun _ h9 => h9) dX13_weighMade_81 ?_
                refine lv_iload hx hb dX13_weighMade_84 (lv_at hl 1 rfl) ?_
                refine lv_iconst (v := 1) hx hb dX13_weighMade_86 (by decide) ?_
                refine lv_isub hx hb dX13_weighMade_87 ?_
                refine tk_sub rfl (show (1 : Int32).toInt = 1 by decide) (by omega) (by omega) (fun v2054 h_v2054 => ?_)
                refine mz_iald hx hb hK hM 55 (Nat.le_of_ble_eq_true rfl) rfl (nn := 4) rfl rfl (by omega) (by omega) dX13_weighMade_88 (fun v2055 e_v2055 => ?_)
                have hq_v2055 := tk_rng v2055
                have hch_v2055 : (-1) ≤ v2055.toInt ∧ v2055.toInt ≤ 10 := by have h9 := hx_0 v2054.toInt.toNat (by omega); rw [show Ra 55 v2054.toInt.toNat = v2055 from e_v2055] at h9; exact h9
                refine lv_iconst (v := 1) hx hb dX13_weighMade_89 (by decide) ?_
                have hk_1 : (1 : Int32).toInt = 1 := by decide
                refine mz_Vj (As := [.int v2055, .int 1]) (rest := [.int v2052, .int v2030, .int v389]) ⟨hx, hb, hml, hown, hts⟩ hK hM hS (k_X13_ofPiece l D cy ld ad am hD _ _ _ _ v2055 1 (hIF.weak) hIG hIR (by omega) (by omega) (by omega) (by omega)) ⟨callB_of 2 hts (wl_in mw_1480) rfl rfl rfl (htl _ mw_5) (htl _ mw_1477) hd_yX13_ofPiece ⟨(Nat.le_of_ble_eq_true rfl), (Nat.le_of_ble_eq_true rfl)⟩, htl _ mw_1478, htl _ mw_1479⟩ rfl hl.1 rfl (Nat.le_of_ble_eq_true rfl) dX13_weighMade_90 ⟨(Nat.le_of_ble_eq_true rfl), (Nat.le_of_ble_eq_true rfl)⟩ (fun v2056 H locs hpo hM hS => ?_)
                have hq_v2056 := tk_rng v2056
                refine lv_icmp_ne (tgt := 100) hx hb dX13_weighMade_93 (by decide) (fun c9 => ?_) (fun c9 => ?_)
                · have hc2058 : ¬ (v2052.toInt = v2056.toInt) := fun h9 => c9 ((fi_eq rfl rfl).mpr h9)
                  refine lv_iconst (v := 0) hx hb dX13_weighMade_100 (by decide) ?_
                  have hk_0 : (0 : Int32).toInt = 0 := by decide
                  exact hj2044 0 _ _ (by omega) (by omega) hM hS _ (lv_sub hl [1, 2, 4, 5, 6] rfl)
                · have hc2058 : v2052.toInt = v2056.toInt := (fi_eq rfl rfl).mp c9
                  refine lv_iconst (v := 3) hx hb dX13_weighMade_96 (by decide) ?_
                  refine lv_goto (tgt := 101) hx hb dX13_weighMade_97 (by decide) ?_
                  have hk_3 : (3 : Int32).toInt = 3 := by decide
                  exact hj2044 3 _ _ (by omega) (by omega) hM hS _ (lv_sub hl [1, 2, 4, 5, 6] rfl)
            · have hc2028 : ¬ (v387.toInt ≤ v1837.toInt) := fun h9 => c9 ((fi_le rfl rfl).mpr h9)
              refine lv_aload_n hx hb dX13_weighMade_24 rfl (lv_at hl 4 rfl) ?_
              refine mz_getR hx hb htl hown hK hM 55 (Nat.le_of_ble_eq_true rfl) (Nat.le_of_ble_eq_true rfl) (htl _ mw_236) (fun _ h9 => h9) dX13_weighMade_25 ?_
              refine lv_iload hx hb dX13_weighMade_28 (lv_at hl 0 rfl) ?_
              refine mz_iald hx hb hK hM 55 (Nat.le_of_ble_eq_true rfl) rfl (nn := 4) rfl rfl (by omega) (by omega) dX13_weighMade_30 (fun v2059 e_v2059 => ?_)
              have hq_v2059 := tk_rng v2059
              refine lv_aload_n hx hb dX13_weighMade_31 rfl (lv_at hl 4 rfl) ?_
              refine mz_getR hx hb htl hown hK hM 55 (Nat.le_of_ble_eq_true rfl) (Nat.le_of_ble_eq_true rfl) (htl _ mw_236) (fun _ h9 => h9) dX13_weighMade_32 ?_
              refine lv_iload hx hb dX13_weighMade_35 (lv_at hl 1 rfl) ?_
              refine mz_iald hx hb hK hM 55 (Nat.le_of_ble_eq_true rfl) rfl (nn := 4) rfl rfl (by omega) (by omega) dX13_weighMade_37 (fun v2060 e_v2060 => ?_)
              have hq_v2060 := tk_rng v2060
              refine lv_icmp_ne (tgt := 43) hx hb dX13_weighMade_38 (by decide) (fun c9 => ?_) (fun c9 => ?_)
              · have hc2061 : ¬ (v2059.toInt = v2060.toInt) := fun h9 => c9 ((fi_eq rfl rfl).mpr h9)
                obtain ⟨v2062, h_v2062, e_v2062⟩ := tk_inc v1837 1 (by decide) (by omega) (by omega)
                refine lv_iinc (v := v2062) (lv' := [(6, .int v2062), (5, .int v387), (4, .int v388), (3, .int v389), (0, .ref am), (1, .int p1), (2, .int p2)]) hx hb dX13_weighMade_43 hl (k := 0) rfl e_v2062 (by decide) rfl (fun ls hl => ?_)
                refine lv_goto (tgt := 17) hx hb dX13_weighMade_46 (by decide) ?_
                exact ih_l2027 v2062 (by omega) (by omega) (by omega) _ (lv_sub hl [0, 1, 2, 3, 4, 5, 6] rfl)
              · have hc2061 : v2059.toInt = v2060.toInt := (fi_eq rfl rfl).mp c9
                refine lv_iconst (v := 0) hx hb dX13_weighMade_41 (by decide) ?_
                have hk_0 : (0 : Int32).toInt = 0 := by decide
                exact mz_iret (v := 0) hx hb hr rfl hlocks ⟨hIF, hIG, hIR, (fun _ _ => rfl), (fun _ _ => rfl), (fun _ _ => rfl), (by omega), (by omega), (by omega), (by omega)⟩ hM hS dX13_weighMade_42
        have hk_0 : (0 : Int32).toInt = 0 := by decide
        exact hl2027 4 0 (by omega) (by omega) (by omega) _ (lv_sub hl [0, 1, 2, 3, 4, 5, 6] rfl)
  have hk_0 : (0 : Int32).toInt = 0 := by decide
  have hk_0 : (0 : Int32).toInt = 0 := by decide
  have hk_0 : (0 : Int32).toInt = 0 := by decide
  exact hl1748 5 0 0 0 _ _ (by omega) (by omega) hM hS (by omega) _ (lv_sub hl [0, 1, 2, 3, 4, 5] rfl)
