section
theorem dX13_sight_0 : decode cX13_sight 0 = .ok (.aload_n 0, 1) := by decide +kernel
theorem dX13_sight_1 : decode cX13_sight 1 = .ok (.iconst 0, 1) := by decide +kernel
theorem dX13_sight_2 : decode cX13_sight 2 = .ok (.putfield 170, 3) := by decide +kernel
theorem dX13_sight_5 : decode cX13_sight 5 = .ok (.iload_n 3, 1) := by decide +kernel
theorem dX13_sight_6 : decode cX13_sight 6 = .ok (.i2l, 1) := by decide +kernel
theorem dX13_sight_7 : decode cX13_sight 7 = .ok (.lconst 0, 1) := by decide +kernel
theorem dX13_sight_8 : decode cX13_sight 8 = .ok (.ldc2_w 568, 3) := by decide +kernel
theorem dX13_sight_11 : decode cX13_sight 11 = .ok (.invokestatic 190, 3) := by decide +kernel
theorem dX13_sight_14 : decode cX13_sight 14 = .ok (.ifCond .eq 25, 3) := by decide +kernel
theorem dX13_sight_39 : decode cX13_sight 39 = .ok (.aload_n 0, 1) := by decide +kernel
theorem dX13_sight_40 : decode cX13_sight 40 = .ok (.iconst (-1), 1) := by decide +kernel
theorem dX13_sight_41 : decode cX13_sight 41 = .ok (.invokevirtual 183, 3) := by decide +kernel
theorem dX13_sight_44 : decode cX13_sight 44 = .ok (.ireturn, 1) := by decide +kernel
theorem dX13_sight_17 : decode cX13_sight 17 = .ok (.iload 4, 2) := by decide +kernel
theorem dX13_sight_19 : decode cX13_sight 19 = .ok (.i2l, 1) := by decide +kernel
theorem dX13_sight_20 : decode cX13_sight 20 = .ok (.lconst 0, 1) := by decide +kernel
theorem dX13_sight_21 : decode cX13_sight 21 = .ok (.lconst 1, 1) := by decide +kernel
theorem dX13_sight_22 : decode cX13_sight 22 = .ok (.invokestatic 190, 3) := by decide +kernel
theorem dX13_sight_25 : decode cX13_sight 25 = .ok (.ifCond .eq 14, 3) := by decide +kernel
theorem dX13_sight_28 : decode cX13_sight 28 = .ok (.iload 5, 2) := by decide +kernel
theorem dX13_sight_30 : decode cX13_sight 30 = .ok (.i2l, 1) := by decide +kernel
theorem dX13_sight_31 : decode cX13_sight 31 = .ok (.lconst 0, 1) := by decide +kernel
theorem dX13_sight_32 : decode cX13_sight 32 = .ok (.lconst 1, 1) := by decide +kernel
theorem dX13_sight_33 : decode cX13_sight 33 = .ok (.invokestatic 190, 3) := by decide +kernel
theorem dX13_sight_36 : decode cX13_sight 36 = .ok (.ifCond .ne 9, 3) := by decide +kernel
theorem dX13_sight_45 : decode cX13_sight 45 = .ok (.aload_n 0, 1) := by decide +kernel
theorem dX13_sight_46 : decode cX13_sight 46 = .ok (.iload_n 1, 1) := by decide +kernel
theorem dX13_sight_47 : decode cX13_sight 47 = .ok (.invokevirtual 216, 3) := by decide +kernel
theorem dX13_sight_50 : decode cX13_sight 50 = .ok (.ifCond .eq 11, 3) := by decide +kernel
theorem dX13_sight_61 : decode cX13_sight 61 = .ok (.aload_n 0, 1) := by decide +kernel
theorem dX13_sight_62 : decode cX13_sight 62 = .ok (.bipush (-2), 2) := by decide +kernel
theorem dX13_sight_64 : decode cX13_sight 64 = .ok (.invokevirtual 183, 3) := by decide +kernel
theorem dX13_sight_67 : decode cX13_sight 67 = .ok (.ireturn, 1) := by decide +kernel
theorem dX13_sight_53 : decode cX13_sight 53 = .ok (.aload_n 0, 1) := by decide +kernel
theorem dX13_sight_54 : decode cX13_sight 54 = .ok (.iload_n 2, 1) := by decide +kernel
theorem dX13_sight_55 : decode cX13_sight 55 = .ok (.invokevirtual 201, 3) := by decide +kernel
theorem dX13_sight_58 : decode cX13_sight 58 = .ok (.ifCond .ne 10, 3) := by decide +kernel
theorem dX13_sight_68 : decode cX13_sight 68 = .ok (.aload_n 0, 1) := by decide +kernel
theorem dX13_sight_69 : decode cX13_sight 69 = .ok (.getfield 13, 3) := by decide +kernel
theorem dX13_sight_72 : decode cX13_sight 72 = .ok (.iconst 3, 1) := by decide +kernel
theorem dX13_sight_73 : decode cX13_sight 73 = .ok (.iaload, 1) := by decide +kernel
theorem dX13_sight_74 : decode cX13_sight 74 = .ok (.istore 6, 2) := by decide +kernel
theorem dX13_sight_76 : decode cX13_sight 76 = .ok (.iload 6, 2) := by decide +kernel
theorem dX13_sight_78 : decode cX13_sight 78 = .ok (.bipush 8, 2) := by decide +kernel
theorem dX13_sight_80 : decode cX13_sight 80 = .ok (.if_icmp .ne 10, 3) := by decide +kernel
theorem dX13_sight_90 : decode cX13_sight 90 = .ok (.bipush 116, 2) := by decide +kernel
theorem dX13_sight_92 : decode cX13_sight 92 = .ok (.iconst 5, 1) := by decide +kernel
theorem dX13_sight_93 : decode cX13_sight 93 = .ok (.iload 6, 2) := by decide +kernel
theorem dX13_sight_95 : decode cX13_sight 95 = .ok (.imul, 1) := by decide +kernel
theorem dX13_sight_96 : decode cX13_sight 96 = .ok (.iadd, 1) := by decide +kernel
theorem dX13_sight_97 : decode cX13_sight 97 = .ok (.istore 7, 2) := by decide +kernel
theorem dX13_sight_99 : decode cX13_sight 99 = .ok (.aload_n 0, 1) := by decide +kernel
theorem dX13_sight_100 : decode cX13_sight 100 = .ok (.getfield 13, 3) := by decide +kernel
theorem dX13_sight_103 : decode cX13_sight 103 = .ok (.iload 7, 2) := by decide +kernel
theorem dX13_sight_105 : decode cX13_sight 105 = .ok (.iload_n 1, 1) := by decide +kernel
theorem dX13_sight_106 : decode cX13_sight 106 = .ok (.iastore, 1) := by decide +kernel
theorem dX13_sight_107 : decode cX13_sight 107 = .ok (.aload_n 0, 1) := by decide +kernel
theorem dX13_sight_108 : decode cX13_sight 108 = .ok (.getfield 13, 3) := by decide +kernel
theorem dX13_sight_111 : decode cX13_sight 111 = .ok (.iload 7, 2) := by decide +kernel
theorem dX13_sight_113 : decode cX13_sight 113 = .ok (.iconst 1, 1) := by decide +kernel
theorem dX13_sight_114 : decode cX13_sight 114 = .ok (.iadd, 1) := by decide +kernel
theorem dX13_sight_115 : decode cX13_sight 115 = .ok (.iload_n 2, 1) := by decide +kernel
theorem dX13_sight_116 : decode cX13_sight 116 = .ok (.iastore, 1) := by decide +kernel
theorem dX13_sight_117 : decode cX13_sight 117 = .ok (.aload_n 0, 1) := by decide +kernel
theorem dX13_sight_118 : decode cX13_sight 118 = .ok (.getfield 13, 3) := by decide +kernel
theorem dX13_sight_121 : decode cX13_sight 121 = .ok (.iload 7, 2) := by decide +kernel
theorem dX13_sight_123 : decode cX13_sight 123 = .ok (.iconst 2, 1) := by decide +kernel
theorem dX13_sight_124 : decode cX13_sight 124 = .ok (.iadd, 1) := by decide +kernel
theorem dX13_sight_125 : decode cX13_sight 125 = .ok (.iload_n 3, 1) := by decide +kernel
theorem dX13_sight_126 : decode cX13_sight 126 = .ok (.iastore, 1) := by decide +kernel
theorem dX13_sight_127 : decode cX13_sight 127 = .ok (.aload_n 0, 1) := by decide +kernel
theorem dX13_sight_128 : decode cX13_sight 128 = .ok (.getfield 13, 3) := by decide +kernel
theorem dX13_sight_131 : decode cX13_sight 131 = .ok (.iload 7, 2) := by decide +kernel
theorem dX13_sight_133 : decode cX13_sight 133 = .ok (.iconst 3, 1) := by decide +kernel
theorem dX13_sight_134 : decode cX13_sight 134 = .ok (.iadd, 1) := by decide +kernel
theorem dX13_sight_135 : decode cX13_sight 135 = .ok (.iload 4, 2) := by decide +kernel
theorem dX13_sight_137 : decode cX13_sight 137 = .ok (.iastore, 1) := by decide +kernel
theorem dX13_sight_138 : decode cX13_sight 138 = .ok (.aload_n 0, 1) := by decide +kernel
theorem dX13_sight_139 : decode cX13_sight 139 = .ok (.getfield 13, 3) := by decide +kernel
theorem dX13_sight_142 : decode cX13_sight 142 = .ok (.iload 7, 2) := by decide +kernel
theorem dX13_sight_144 : decode cX13_sight 144 = .ok (.iconst 4, 1) := by decide +kernel
theorem dX13_sight_145 : decode cX13_sight 145 = .ok (.iadd, 1) := by decide +kernel
theorem dX13_sight_146 : decode cX13_sight 146 = .ok (.iload 5, 2) := by decide +kernel
theorem dX13_sight_148 : decode cX13_sight 148 = .ok (.iastore, 1) := by decide +kernel
theorem dX13_sight_149 : decode cX13_sight 149 = .ok (.aload_n 0, 1) := by decide +kernel
theorem dX13_sight_150 : decode cX13_sight 150 = .ok (.getfield 13, 3) := by decide +kernel
theorem dX13_sight_153 : decode cX13_sight 153 = .ok (.iconst 3, 1) := by decide +kernel
theorem dX13_sight_154 : decode cX13_sight 154 = .ok (.dup2, 1) := by decide +kernel
theorem dX13_sight_155 : decode cX13_sight 155 = .ok (.iaload, 1) := by decide +kernel
theorem dX13_sight_156 : decode cX13_sight 156 = .ok (.iconst 1, 1) := by decide +kernel
theorem dX13_sight_157 : decode cX13_sight 157 = .ok (.iadd, 1) := by decide +kernel
theorem dX13_sight_158 : decode cX13_sight 158 = .ok (.iastore, 1) := by decide +kernel
theorem dX13_sight_159 : decode cX13_sight 159 = .ok (.aload_n 0, 1) := by decide +kernel
theorem dX13_sight_160 : decode cX13_sight 160 = .ok (.iload 6, 2) := by decide +kernel
theorem dX13_sight_162 : decode cX13_sight 162 = .ok (.iconst 1, 1) := by decide +kernel
theorem dX13_sight_163 : decode cX13_sight 163 = .ok (.iadd, 1) := by decide +kernel
theorem dX13_sight_164 : decode cX13_sight 164 = .ok (.invokevirtual 183, 3) := by decide +kernel
theorem dX13_sight_167 : decode cX13_sight 167 = .ok (.ireturn, 1) := by decide +kernel
theorem dX13_sight_83 : decode cX13_sight 83 = .ok (.aload_n 0, 1) := by decide +kernel
theorem dX13_sight_84 : decode cX13_sight 84 = .ok (.bipush (-5), 2) := by decide +kernel
theorem dX13_sight_86 : decode cX13_sight 86 = .ok (.invokevirtual 183, 3) := by decide +kernel
theorem dX13_sight_89 : decode cX13_sight 89 = .ok (.ireturn, 1) := by decide +kernel
end
section
theorem dX13_forget_0 : decode cX13_forget 0 = .ok (.aload_n 0, 1) := by decide +kernel
theorem dX13_forget_1 : decode cX13_forget 1 = .ok (.iconst 0, 1) := by decide +kernel
theorem dX13_forget_2 : decode cX13_forget 2 = .ok (.putfield 170, 3) := by decide +kernel
theorem dX13_forget_5 : decode cX13_forget 5 = .ok (.aload_n 0, 1) := by decide +kernel
theorem dX13_forget_6 : decode cX13_forget 6 = .ok (.getfield 13, 3) := by decide +kernel
theorem dX13_forget_9 : decode cX13_forget 9 = .ok (.iconst 3, 1) := by decide +kernel
theorem dX13_forget_10 : decode cX13_forget 10 = .ok (.iaload, 1) := by decide +kernel
theorem dX13_forget_11 : decode cX13_forget 11 = .ok (.istore_n 1, 1) := by decide +kernel
theorem dX13_forget_12 : decode cX13_forget 12 = .ok (.aload_n 0, 1) := by decide +kernel
theorem dX13_forget_13 : decode cX13_forget 13 = .ok (.getfield 13, 3) := by decide +kernel
theorem dX13_forget_16 : decode cX13_forget 16 = .ok (.iconst 3, 1) := by decide +kernel
theorem dX13_forget_17 : decode cX13_forget 17 = .ok (.iconst 0, 1) := by decide +kernel
theorem dX13_forget_18 : decode cX13_forget 18 = .ok (.iastore, 1) := by decide +kernel
theorem dX13_forget_19 : decode cX13_forget 19 = .ok (.iload_n 1, 1) := by decide +kernel
theorem dX13_forget_20 : decode cX13_forget 20 = .ok (.ireturn, 1) := by decide +kernel
end
section
theorem dX13_leftBy_0 : decode cX13_leftBy 0 = .ok (.aload_n 0, 1) := by decide +kernel
theorem dX13_leftBy_1 : decode cX13_leftBy 1 = .ok (.iload_n 1, 1) := by decide +kernel
theorem dX13_leftBy_2 : decode cX13_leftBy 2 = .ok (.aload_n 0, 1) := by decide +kernel
theorem dX13_leftBy_3 : decode cX13_leftBy 3 = .ok (.iload_n 2, 1) := by decide +kernel
theorem dX13_leftBy_4 : decode cX13_leftBy 4 = .ok (.iconst 1, 1) := by decide +kernel
theorem dX13_leftBy_5 : decode cX13_leftBy 5 = .ok (.invokevirtual 207, 3) := by decide +kernel
theorem dX13_leftBy_8 : decode cX13_leftBy 8 = .ok (.iload_n 3, 1) := by decide +kernel
theorem dX13_leftBy_9 : decode cX13_leftBy 9 = .ok (.iload 4, 2) := by decide +kernel
theorem dX13_leftBy_11 : decode cX13_leftBy 11 = .ok (.iload 5, 2) := by decide +kernel
theorem dX13_leftBy_13 : decode cX13_leftBy 13 = .ok (.iload 6, 2) := by decide +kernel
theorem dX13_leftBy_15 : decode cX13_leftBy 15 = .ok (.invokevirtual 425, 3) := by decide +kernel
theorem dX13_leftBy_18 : decode cX13_leftBy 18 = .ok (.iload 5, 2) := by decide +kernel
theorem dX13_leftBy_20 : decode cX13_leftBy 20 = .ok (.aload_n 0, 1) := by decide +kernel
theorem dX13_leftBy_21 : decode cX13_leftBy 21 = .ok (.invokevirtual 440, 3) := by decide +kernel
theorem dX13_leftBy_24 : decode cX13_leftBy 24 = .ok (.isub, 1) := by decide +kernel
theorem dX13_leftBy_25 : decode cX13_leftBy 25 = .ok (.i2l, 1) := by decide +kernel
theorem dX13_leftBy_26 : decode cX13_leftBy 26 = .ok (.iconst 0, 1) := by decide +kernel
theorem dX13_leftBy_27 : decode cX13_leftBy 27 = .ok (.sipush 999, 3) := by decide +kernel
theorem dX13_leftBy_30 : decode cX13_leftBy 30 = .ok (.invokestatic 421, 3) := by decide +kernel
theorem dX13_leftBy_33 : decode cX13_leftBy 33 = .ok (.ireturn, 1) := by decide +kernel
set_option maxHeartbeats 4000000 in
set_option maxRecDepth 100000 in
theorem k_X13_leftBy (l : Launch) (D : va_G) (cy : Nat → ClassId) (ld ad : Nat → Nat) (am : Nat) (hD : mz_D ad am) (Fa : Nat → Int32) (Ga : Nat → Int64) (Ra : Nat → Nat → Int32) (Sa : Nat → Nat → Int64) (p1 : Int32) (p2 : Int32) (p3 : Int32) (p4 : Int32) (p5 : Int32) (p6 : Int32) (hIF : mz_IF true Fa) (hIG : mz_IG Ga) (hIR : mz_IR [] true Ra) (hp_0 : 0 ≤ p1.toInt) (hp_1 : p1.toInt ≤ 9) (hp_2 : 0 ≤ p2.toInt) (hp_3 : p2.toInt ≤ 7) : Met l yX13_leftBy (wl yX13_leftBy cX13_leftBy 7 (some .int)) ({ frames := 9, cells := 0, slots := 0, locals := 560 }) (mz_p D cy ld ad am Fa Ga Ra Sa [.ref am, .int p1, .int p2, .int p3, .int p4, .int p5, .int p6]) (mz_i D cy ad am (fun r F G R S => mz_IF true F ∧ mz_IG G ∧ mz_IR [] true R ∧ (∀ k : Nat, k ∉ ([34, 38] : List Nat) → F k = Fa k) ∧ (∀ k : Nat, k ∉ ([] : List Nat) → R k = Ra k) ∧ (∀ k : Nat, k ∉ ([39, 40] : List Nat) → G k = Ga k) ∧ 0 ≤ r.toInt ∧ r.toInt ≤ 999)) 0 0 (mz_W ad am) := by
  refine mz_met (y := yX13_leftBy) (cc := cX13_leftBy) (maxL := 7) (ret := (some .int)) (av := [.ref am, .int p1, .int p2, .int p3, .int p4, .int p5, .int p6]) _ (by decide) (Nat.le_of_ble_eq_true rfl) ?_
  intro p e s m args below meth c hx hb hr hml hts htl hown hlocks hK H locs hM hS ls hl
  have hown : s.vm.findClass RX13 = some m.cls := hown
  have hl : lv_has ls 7 [(0, .ref am), (1, .int p1), (2, .int p2), (3, .int p3), (4, .int p4), (5, .int p5), (6, .int p6)] := hl
  have hr_p1 := tk_rng p1
  have hr_p2 := tk_rng p2
  have hr_p3 := tk_rng p3
  have hr_p4 := tk_rng p4
  have hr_p5 := tk_rng p5
  have hr_p6 := tk_rng p6
  refine lv_aload_n hx hb dX13_leftBy_0 rfl (lv_at hl 0 rfl) ?_
  refine lv_iload_n hx hb dX13_leftBy_1 rfl (lv_at hl 1 rfl) ?_
  refine lv_aload_n hx hb dX13_leftBy_2 rfl (lv_at hl 0 rfl) ?_
  refine lv_iload_n hx hb dX13_leftBy_3 rfl (lv_at hl 2 rfl) ?_
  refine lv_iconst (v := 1) hx hb dX13_leftBy_4 (by decide) ?_
  have hk_1 : (1 : Int32).toInt = 1 := by decide
  refine mz_Vj (As := [.int p2, .int 1]) (rest := [.int p1, .ref am]) ⟨hx, hb, hml, hown, hts⟩ hK hM hS (k_X13_ofSinger_1 l D cy ld ad am hD _ _ _ _ p2 (hIF.weak) hIG hIR (by omega) (by omega)) ⟨callB_of 2 hts (wl_in mw_324) rfl rfl rfl (htl _ mw_5) (htl _ mw_321) hd_yX13_ofSinger ⟨(Nat.le_of_ble_eq_true rfl), (Nat.le_of_ble_eq_true rfl)⟩, htl _ mw_322, htl _ mw_323⟩ rfl hl.1 rfl (Nat.le_of_ble_eq_true rfl) dX13_leftBy_5 ⟨(Nat.le_of_ble_eq_true rfl), (Nat.le_of_ble_eq_true rfl)⟩ (fun v1 H locs hpo hM hS => ?_)
  have hq_v1 := tk_rng v1
  refine lv_iload_n hx hb dX13_leftBy_8 rfl (lv_at hl 3 rfl) ?_
  refine lv_iload hx hb dX13_leftBy_9 (lv_at hl 4 rfl) ?_
  refine lv_iload hx hb dX13_leftBy_11 (lv_at hl 5 rfl) ?_
  refine lv_iload hx hb dX13_leftBy_13 (lv_at hl 6 rfl) ?_
  refine mz_Vv (As := [.int p1, .int v1, .int p3, .int p4, .int p5, .int p6]) (rest := []) ⟨hx, hb, hml, hown, hts⟩ hK hM hS (k_X13_setSung l D cy ld ad am hD _ _ _ _ p1 v1 p3 p4 p5 p6 hIF hIG hIR (by omega) (by omega)) ⟨callB_of 6 hts (wl_in mw_1099) rfl rfl rfl (htl _ mw_5) (htl _ mw_1096) hd_yX13_setSung ⟨(Nat.le_of_ble_eq_true rfl), (Nat.le_of_ble_eq_true rfl)⟩, htl _ mw_1097, htl _ mw_1098⟩ rfl hl.1 rfl (Nat.le_of_ble_eq_true rfl) dX13_leftBy_15 ⟨(Nat.le_of_ble_eq_true rfl), (Nat.le_of_ble_eq_true rfl)⟩ (fun H locs F G R S hpo hM hS => ?_)
  obtain ⟨hIF, hIG, hIR, hfr9, hrr9, hgr9⟩ := hpo
  have hFF := mz_fr (K := [34, 38]) (Fa := Fa) hfr9 (fun _ _ => rfl) (by decide)
  have hRR := mz_fr (K := []) (Fa := Ra) hrr9 (fun _ _ => rfl) (by decide)
  have hGG := mz_fr (K := [39, 40]) (Fa := Ga) hgr9 (fun _ _ => rfl) (by decide)
  refine lv_iload hx hb dX13_leftBy_18 (lv_at hl 5 rfl) ?_
  refine lv_aload_n hx hb dX13_leftBy_20 rfl (lv_at hl 0 rfl) ?_
  refine mz_Vi (As := []) (rest := [.int p5]) ⟨hx, hb, hml, hown, hts⟩ hK hM hS (k_X13_lullsSet l D cy ld ad am hD _ _ _ _ hIF hIG hIR) ⟨callB_of 0 hts (wl_in mw_1121) rfl rfl rfl (htl _ mw_5) (htl _ mw_1118) hd_yX13_lullsSet ⟨(Nat.le_of_ble_eq_true rfl), (Nat.le_of_ble_eq_true rfl)⟩, htl _ mw_1119, htl _ mw_1120⟩ rfl hl.1 rfl (Nat.le_of_ble_eq_true rfl) dX13_leftBy_21 ⟨(Nat.le_of_ble_eq_true rfl), (Nat.le_of_ble_eq_true rfl)⟩ (fun v4 H locs F G R S hpo hM hS => ?_)
  obtain ⟨hIF, hIG, hIR, hfr9, hrr9, hgr9, hpo5, hpo6⟩ := hpo
  have hq_v4 := tk_rng v4
  have hFF := mz_fr (K := [34, 38]) (Fa := Fa) hfr9 hFF (by decide)
  have hRR := mz_fr (K := []) (Fa := Ra) hrr9 hRR (by decide)
  have hGG := mz_fr (K := [39, 40]) (Fa := Ga) hgr9 hGG (by decide)
  refine lv_isub hx hb dX13_leftBy_24 ?_
  obtain ⟨v11, hm_v11⟩ : ∃ z : Int32, p5 - v4 = z := ⟨_, rfl⟩
  refine fx_ti hm_v11 ?_
  obtain ⟨w12, e_w12, h_w12⟩ : ∃ z : Int64, v11.toInt64 = z ∧ z.toInt = v11.toInt := ⟨_, rfl, fl_w _⟩
  refine lv_i2l (v := w12) hx hb dX13_leftBy_25 e_w12 ?_
  refine lv_iconst (v := 0) hx hb dX13_leftBy_26 (by decide) ?_
  refine lv_sipush (v := 999) hx hb dX13_leftBy_27 (by decide) ?_
  have hk_0 : (0 : Int32).toInt = 0 := by decide
  have hk_999 : (999 : Int32).toInt = 999 := by decide
  refine mz_Sj (As := [.long w12, .int 0, .int 999]) (rest := []) ⟨hx, hb, hml, hown, hts⟩ hK hM hS (k_X13_within l D cy ld ad am hD _ _ _ _ w12 0 999 (by omega)) ⟨callB_of 3 hts (wl_in mw_1125) rfl rfl rfl (htl _ mw_5) (htl _ mw_1123) hd_yX13_within ⟨(Nat.le_of_ble_eq_true rfl), (Nat.le_of_ble_eq_true rfl)⟩, htl _ mw_1124⟩ rfl hl.1 rfl (Nat.le_of_ble_eq_true rfl) dX13_leftBy_30 ⟨(Nat.le_of_ble_eq_true rfl), (Nat.le_of_ble_eq_true rfl)⟩ (fun v13 H locs hpo hM hS => ?_)
  obtain ⟨hpo14, hpo15⟩ := hpo
  have hq_v13 := tk_rng v13
  exact mz_iret (v := v13) hx hb hr rfl hlocks ⟨hIF, hIG, hIR, hFF, hRR, hGG, (by omega), (by omega)⟩ hM hS dX13_leftBy_33
end
