section
theorem dX13_isVerse_0 : decode cX13_isVerse 0 = .ok (.iload_n 1, 1) := by decide +kernel
theorem dX13_isVerse_1 : decode cX13_isVerse 1 = .ok (.i2l, 1) := by decide +kernel
theorem dX13_isVerse_2 : decode cX13_isVerse 2 = .ok (.lconst 0, 1) := by decide +kernel
theorem dX13_isVerse_3 : decode cX13_isVerse 3 = .ok (.aload_n 0, 1) := by decide +kernel
theorem dX13_isVerse_4 : decode cX13_isVerse 4 = .ok (.getfield 13, 3) := by decide +kernel
theorem dX13_isVerse_7 : decode cX13_isVerse 7 = .ok (.iconst 1, 1) := by decide +kernel
theorem dX13_isVerse_8 : decode cX13_isVerse 8 = .ok (.iaload, 1) := by decide +kernel
theorem dX13_isVerse_9 : decode cX13_isVerse 9 = .ok (.i2l, 1) := by decide +kernel
theorem dX13_isVerse_10 : decode cX13_isVerse 10 = .ok (.lconst 1, 1) := by decide +kernel
theorem dX13_isVerse_11 : decode cX13_isVerse 11 = .ok (.lsub, 1) := by decide +kernel
theorem dX13_isVerse_12 : decode cX13_isVerse 12 = .ok (.invokestatic 190, 3) := by decide +kernel
theorem dX13_isVerse_15 : decode cX13_isVerse 15 = .ok (.ireturn, 1) := by decide +kernel
set_option maxHeartbeats 4000000 in
set_option maxRecDepth 100000 in
theorem k_X13_isVerse (l : Launch) (D : va_G) (cy : Nat → ClassId) (ld ad : Nat → Nat) (am : Nat) (hD : mz_D ad am) (Fa : Nat → Int32) (Ga : Nat → Int64) (Ra : Nat → Nat → Int32) (Sa : Nat → Nat → Int64) (p1 : Int32) (hIF : mz_IF false Fa) (hIG : mz_IG Ga) (hIR : mz_IR [] true Ra) : Met l yX13_isVerse (wl yX13_isVerse cX13_isVerse 2 (some .boolean)) ({ frames := 4, cells := 0, slots := 0, locals := 210 }) (mz_p D cy ld ad am Fa Ga Ra Sa [.ref am, .int p1]) (mz_j D cy ad am Fa Ga Ra Sa (fun r => (1 ≤ r.toInt → 0 ≤ p1.toInt ∧ p1.toInt ≤ 9) ∧ 0 ≤ r.toInt ∧ r.toInt ≤ 1 ∧ 0 ≤ r.toInt ∧ r.toInt ≤ 1)) 0 0 (mz_W ad am) := by
  refine mz_met (y := yX13_isVerse) (cc := cX13_isVerse) (maxL := 2) (ret := (some .boolean)) (av := [.ref am, .int p1]) _ (by decide) (Nat.le_of_ble_eq_true rfl) ?_
  intro p e s m args below meth c hx hb hr hml hts htl hown hlocks hK H locs hM hS ls hl
  have hown : s.vm.findClass RX13 = some m.cls := hown
  have hl : lv_has ls 2 [(0, .ref am), (1, .int p1)] := hl
  have hr_p1 := tk_rng p1
  refine lv_iload_n hx hb dX13_isVerse_0 rfl (lv_at hl 1 rfl) ?_
  obtain ⟨w1, e_w1, h_w1⟩ : ∃ z : Int64, p1.toInt64 = z ∧ z.toInt = p1.toInt := ⟨_, rfl, fl_w _⟩
  refine lv_i2l (v := w1) hx hb dX13_isVerse_1 e_w1 ?_
  refine lv_lconst (v := 0) hx hb dX13_isVerse_2 (by decide) ?_
  refine lv_aload_n hx hb dX13_isVerse_3 rfl (lv_at hl 0 rfl) ?_
  refine mz_getR hx hb htl hown hK hM 3 (Nat.le_of_ble_eq_true rfl) (Nat.le_of_ble_eq_true rfl) (htl _ mw_188) (fun _ h9 => h9) dX13_isVerse_4 ?_
  refine lv_iconst (v := 1) hx hb dX13_isVerse_7 (by decide) ?_
  refine mz_iald hx hb hK hM 3 (Nat.le_of_ble_eq_true rfl) rfl (nn := 5560) rfl (I := 1) (by decide) (by decide) (by decide) dX13_isVerse_8 (fun v3 hf2 => ?_)
  have hf2 : Ra 3 1 = v3 := hf2
  have hq_v3 := tk_rng v3
  have hr_v3 : 0 ≤ v3.toInt ∧ v3.toInt ≤ 10 := by have h9 := mz_r3c 1 (hIR.at 3) hf2 (by decide); unfold mE at h9; omega
  obtain ⟨w4, e_w4, h_w4⟩ : ∃ z : Int64, v3.toInt64 = z ∧ z.toInt = v3.toInt := ⟨_, rfl, fl_w _⟩
  refine lv_i2l (v := w4) hx hb dX13_isVerse_9 e_w4 ?_
  refine lv_lconst (v := 1) hx hb dX13_isVerse_10 (by decide) ?_
  refine lv_lsub hx hb dX13_isVerse_11 ?_
  refine tk_lsub rfl (show (1 : Int64).toInt = 1 by decide) (by omega) (by omega) (fun w5 h_w5 => ?_)
  have hk_0 : (0 : Int64).toInt = 0 := by decide
  refine mz_Sj (As := [.long w1, .long 0, .long w5]) (rest := []) ⟨hx, hb, hml, hown, hts⟩ hK hM hS (k_X13_in l D cy ld ad am hD _ _ _ _ w1 0 w5) ⟨callB_of 3 hts (wl_in mw_292) rfl rfl rfl (htl _ mw_5) (htl _ mw_290) hd_yX13_in ⟨(Nat.le_of_ble_eq_true rfl), (Nat.le_of_ble_eq_true rfl)⟩, htl _ mw_291⟩ rfl hl.1 rfl (Nat.le_of_ble_eq_true rfl) dX13_isVerse_12 ⟨(Nat.le_of_ble_eq_true rfl), (Nat.le_of_ble_eq_true rfl)⟩ (fun v6 H locs hpo hM hS => ?_)
  obtain ⟨hpo10, hpo11, hpo12, hpo13, hpo14, hpo15⟩ := hpo
  have hq_v6 := tk_rng v6
  exact mz_jret (v := v6) hx hb hr (tk_nz (by omega) (by omega)) hlocks ⟨(by omega), (by omega), (by omega), (by omega), (by omega)⟩ hM hS dX13_isVerse_15
end
section
theorem dX13_singer_0 : decode cX13_singer 0 = .ok (.aload_n 0, 1) := by decide +kernel
theorem dX13_singer_1 : decode cX13_singer 1 = .ok (.iconst 0, 1) := by decide +kernel
theorem dX13_singer_2 : decode cX13_singer 2 = .ok (.putfield 170, 3) := by decide +kernel
theorem dX13_singer_5 : decode cX13_singer 5 = .ok (.iload_n 1, 1) := by decide +kernel
theorem dX13_singer_6 : decode cX13_singer 6 = .ok (.i2l, 1) := by decide +kernel
theorem dX13_singer_7 : decode cX13_singer 7 = .ok (.lconst 0, 1) := by decide +kernel
theorem dX13_singer_8 : decode cX13_singer 8 = .ok (.ldc2_w 197, 3) := by decide +kernel
theorem dX13_singer_11 : decode cX13_singer 11 = .ok (.invokestatic 190, 3) := by decide +kernel
theorem dX13_singer_14 : decode cX13_singer 14 = .ok (.ifCond .eq 25, 3) := by decide +kernel
theorem dX13_singer_39 : decode cX13_singer 39 = .ok (.aload_n 0, 1) := by decide +kernel
theorem dX13_singer_40 : decode cX13_singer 40 = .ok (.iconst (-1), 1) := by decide +kernel
theorem dX13_singer_41 : decode cX13_singer 41 = .ok (.invokevirtual 183, 3) := by decide +kernel
theorem dX13_singer_44 : decode cX13_singer 44 = .ok (.ireturn, 1) := by decide +kernel
theorem dX13_singer_17 : decode cX13_singer 17 = .ok (.iload_n 2, 1) := by decide +kernel
theorem dX13_singer_18 : decode cX13_singer 18 = .ok (.i2l, 1) := by decide +kernel
theorem dX13_singer_19 : decode cX13_singer 19 = .ok (.lconst 0, 1) := by decide +kernel
theorem dX13_singer_20 : decode cX13_singer 20 = .ok (.ldc2_w 199, 3) := by decide +kernel
theorem dX13_singer_23 : decode cX13_singer 23 = .ok (.invokestatic 190, 3) := by decide +kernel
theorem dX13_singer_26 : decode cX13_singer 26 = .ok (.ifCond .eq 13, 3) := by decide +kernel
theorem dX13_singer_29 : decode cX13_singer 29 = .ok (.iload_n 3, 1) := by decide +kernel
theorem dX13_singer_30 : decode cX13_singer 30 = .ok (.i2l, 1) := by decide +kernel
theorem dX13_singer_31 : decode cX13_singer 31 = .ok (.lconst 0, 1) := by decide +kernel
theorem dX13_singer_32 : decode cX13_singer 32 = .ok (.lconst 1, 1) := by decide +kernel
theorem dX13_singer_33 : decode cX13_singer 33 = .ok (.invokestatic 190, 3) := by decide +kernel
theorem dX13_singer_36 : decode cX13_singer 36 = .ok (.ifCond .ne 9, 3) := by decide +kernel
theorem dX13_singer_45 : decode cX13_singer 45 = .ok (.aload_n 0, 1) := by decide +kernel
theorem dX13_singer_46 : decode cX13_singer 46 = .ok (.getfield 13, 3) := by decide +kernel
theorem dX13_singer_49 : decode cX13_singer 49 = .ok (.iconst 0, 1) := by decide +kernel
theorem dX13_singer_50 : decode cX13_singer 50 = .ok (.iaload, 1) := by decide +kernel
theorem dX13_singer_51 : decode cX13_singer 51 = .ok (.istore 4, 2) := by decide +kernel
theorem dX13_singer_53 : decode cX13_singer 53 = .ok (.iload 4, 2) := by decide +kernel
theorem dX13_singer_55 : decode cX13_singer 55 = .ok (.bipush 8, 2) := by decide +kernel
theorem dX13_singer_57 : decode cX13_singer 57 = .ok (.if_icmp .ne 10, 3) := by decide +kernel
theorem dX13_singer_67 : decode cX13_singer 67 = .ok (.bipush 18, 2) := by decide +kernel
theorem dX13_singer_69 : decode cX13_singer 69 = .ok (.iconst 5, 1) := by decide +kernel
theorem dX13_singer_70 : decode cX13_singer 70 = .ok (.iload 4, 2) := by decide +kernel
theorem dX13_singer_72 : decode cX13_singer 72 = .ok (.imul, 1) := by decide +kernel
theorem dX13_singer_73 : decode cX13_singer 73 = .ok (.iadd, 1) := by decide +kernel
theorem dX13_singer_74 : decode cX13_singer 74 = .ok (.istore 5, 2) := by decide +kernel
theorem dX13_singer_76 : decode cX13_singer 76 = .ok (.aload_n 0, 1) := by decide +kernel
theorem dX13_singer_77 : decode cX13_singer 77 = .ok (.getfield 13, 3) := by decide +kernel
theorem dX13_singer_80 : decode cX13_singer 80 = .ok (.iload 5, 2) := by decide +kernel
theorem dX13_singer_82 : decode cX13_singer 82 = .ok (.iload_n 1, 1) := by decide +kernel
theorem dX13_singer_83 : decode cX13_singer 83 = .ok (.iastore, 1) := by decide +kernel
theorem dX13_singer_84 : decode cX13_singer 84 = .ok (.aload_n 0, 1) := by decide +kernel
theorem dX13_singer_85 : decode cX13_singer 85 = .ok (.getfield 13, 3) := by decide +kernel
theorem dX13_singer_88 : decode cX13_singer 88 = .ok (.iload 5, 2) := by decide +kernel
theorem dX13_singer_90 : decode cX13_singer 90 = .ok (.iconst 1, 1) := by decide +kernel
theorem dX13_singer_91 : decode cX13_singer 91 = .ok (.iadd, 1) := by decide +kernel
theorem dX13_singer_92 : decode cX13_singer 92 = .ok (.iload_n 2, 1) := by decide +kernel
theorem dX13_singer_93 : decode cX13_singer 93 = .ok (.iastore, 1) := by decide +kernel
theorem dX13_singer_94 : decode cX13_singer 94 = .ok (.aload_n 0, 1) := by decide +kernel
theorem dX13_singer_95 : decode cX13_singer 95 = .ok (.getfield 13, 3) := by decide +kernel
theorem dX13_singer_98 : decode cX13_singer 98 = .ok (.iload 5, 2) := by decide +kernel
theorem dX13_singer_100 : decode cX13_singer 100 = .ok (.iconst 2, 1) := by decide +kernel
theorem dX13_singer_101 : decode cX13_singer 101 = .ok (.iadd, 1) := by decide +kernel
theorem dX13_singer_102 : decode cX13_singer 102 = .ok (.iload_n 3, 1) := by decide +kernel
theorem dX13_singer_103 : decode cX13_singer 103 = .ok (.iastore, 1) := by decide +kernel
theorem dX13_singer_104 : decode cX13_singer 104 = .ok (.aload_n 0, 1) := by decide +kernel
theorem dX13_singer_105 : decode cX13_singer 105 = .ok (.getfield 13, 3) := by decide +kernel
theorem dX13_singer_108 : decode cX13_singer 108 = .ok (.iload 5, 2) := by decide +kernel
theorem dX13_singer_110 : decode cX13_singer 110 = .ok (.iconst 3, 1) := by decide +kernel
theorem dX13_singer_111 : decode cX13_singer 111 = .ok (.iadd, 1) := by decide +kernel
theorem dX13_singer_112 : decode cX13_singer 112 = .ok (.iconst 0, 1) := by decide +kernel
theorem dX13_singer_113 : decode cX13_singer 113 = .ok (.iastore, 1) := by decide +kernel
theorem dX13_singer_114 : decode cX13_singer 114 = .ok (.aload_n 0, 1) := by decide +kernel
theorem dX13_singer_115 : decode cX13_singer 115 = .ok (.getfield 13, 3) := by decide +kernel
theorem dX13_singer_118 : decode cX13_singer 118 = .ok (.iload 5, 2) := by decide +kernel
theorem dX13_singer_120 : decode cX13_singer 120 = .ok (.iconst 4, 1) := by decide +kernel
theorem dX13_singer_121 : decode cX13_singer 121 = .ok (.iadd, 1) := by decide +kernel
theorem dX13_singer_122 : decode cX13_singer 122 = .ok (.iconst 0, 1) := by decide +kernel
theorem dX13_singer_123 : decode cX13_singer 123 = .ok (.iastore, 1) := by decide +kernel
theorem dX13_singer_124 : decode cX13_singer 124 = .ok (.aload_n 0, 1) := by decide +kernel
theorem dX13_singer_125 : decode cX13_singer 125 = .ok (.getfield 13, 3) := by decide +kernel
theorem dX13_singer_128 : decode cX13_singer 128 = .ok (.bipush 108, 2) := by decide +kernel
theorem dX13_singer_130 : decode cX13_singer 130 = .ok (.iload 4, 2) := by decide +kernel
theorem dX13_singer_132 : decode cX13_singer 132 = .ok (.iadd, 1) := by decide +kernel
theorem dX13_singer_133 : decode cX13_singer 133 = .ok (.iconst 0, 1) := by decide +kernel
theorem dX13_singer_134 : decode cX13_singer 134 = .ok (.iastore, 1) := by decide +kernel
theorem dX13_singer_135 : decode cX13_singer 135 = .ok (.aload_n 0, 1) := by decide +kernel
theorem dX13_singer_136 : decode cX13_singer 136 = .ok (.getfield 13, 3) := by decide +kernel
theorem dX13_singer_139 : decode cX13_singer 139 = .ok (.iconst 0, 1) := by decide +kernel
theorem dX13_singer_140 : decode cX13_singer 140 = .ok (.dup2, 1) := by decide +kernel
theorem dX13_singer_141 : decode cX13_singer 141 = .ok (.iaload, 1) := by decide +kernel
theorem dX13_singer_142 : decode cX13_singer 142 = .ok (.iconst 1, 1) := by decide +kernel
theorem dX13_singer_143 : decode cX13_singer 143 = .ok (.iadd, 1) := by decide +kernel
theorem dX13_singer_144 : decode cX13_singer 144 = .ok (.iastore, 1) := by decide +kernel
theorem dX13_singer_145 : decode cX13_singer 145 = .ok (.aload_n 0, 1) := by decide +kernel
theorem dX13_singer_146 : decode cX13_singer 146 = .ok (.iconst 0, 1) := by decide +kernel
theorem dX13_singer_147 : decode cX13_singer 147 = .ok (.putfield 176, 3) := by decide +kernel
theorem dX13_singer_150 : decode cX13_singer 150 = .ok (.aload_n 0, 1) := by decide +kernel
theorem dX13_singer_151 : decode cX13_singer 151 = .ok (.iload 4, 2) := by decide +kernel
theorem dX13_singer_153 : decode cX13_singer 153 = .ok (.invokevirtual 183, 3) := by decide +kernel
theorem dX13_singer_156 : decode cX13_singer 156 = .ok (.ireturn, 1) := by decide +kernel
theorem dX13_singer_60 : decode cX13_singer 60 = .ok (.aload_n 0, 1) := by decide +kernel
theorem dX13_singer_61 : decode cX13_singer 61 = .ok (.bipush (-5), 2) := by decide +kernel
theorem dX13_singer_63 : decode cX13_singer 63 = .ok (.invokevirtual 183, 3) := by decide +kernel
theorem dX13_singer_66 : decode cX13_singer 66 = .ok (.ireturn, 1) := by decide +kernel
end
section
theorem hd_yX13_isSinger : yX13_isSinger.cls ≠ "java/lang/invoke/MethodHandle" ∧ yX13_isSinger.cls ≠ "java/lang/invoke/VarHandle" ∧ (parseMethodDescriptor yX13_isSinger.desc).map (fun d => d.parameters.length) = some 1 := by decide +kernel
theorem hd_yX13_ofSinger : yX13_ofSinger.cls ≠ "java/lang/invoke/MethodHandle" ∧ yX13_ofSinger.cls ≠ "java/lang/invoke/VarHandle" ∧ (parseMethodDescriptor yX13_ofSinger.desc).map (fun d => d.parameters.length) = some 2 := by decide +kernel
theorem dX13_of_0 : decode cX13_of 0 = .ok (.aload_n 0, 1) := by decide +kernel
theorem dX13_of_1 : decode cX13_of 1 = .ok (.iconst 0, 1) := by decide +kernel
theorem dX13_of_2 : decode cX13_of 2 = .ok (.putfield 170, 3) := by decide +kernel
theorem dX13_of_5 : decode cX13_of 5 = .ok (.aload_n 0, 1) := by decide +kernel
theorem dX13_of_6 : decode cX13_of 6 = .ok (.iload_n 1, 1) := by decide +kernel
theorem dX13_of_7 : decode cX13_of 7 = .ok (.invokevirtual 201, 3) := by decide +kernel
theorem dX13_of_10 : decode cX13_of 10 = .ok (.ifCond .eq 24, 3) := by decide +kernel
theorem dX13_of_34 : decode cX13_of 34 = .ok (.iconst (-1), 1) := by decide +kernel
theorem dX13_of_35 : decode cX13_of 35 = .ok (.ireturn, 1) := by decide +kernel
theorem dX13_of_13 : decode cX13_of 13 = .ok (.iload_n 2, 1) := by decide +kernel
theorem dX13_of_14 : decode cX13_of 14 = .ok (.i2l, 1) := by decide +kernel
theorem dX13_of_15 : decode cX13_of 15 = .ok (.lconst 0, 1) := by decide +kernel
theorem dX13_of_16 : decode cX13_of 16 = .ok (.ldc2_w 205, 3) := by decide +kernel
theorem dX13_of_19 : decode cX13_of 19 = .ok (.invokestatic 190, 3) := by decide +kernel
theorem dX13_of_22 : decode cX13_of 22 = .ok (.ifCond .eq 12, 3) := by decide +kernel
theorem dX13_of_25 : decode cX13_of 25 = .ok (.aload_n 0, 1) := by decide +kernel
theorem dX13_of_26 : decode cX13_of 26 = .ok (.iload_n 1, 1) := by decide +kernel
theorem dX13_of_27 : decode cX13_of 27 = .ok (.iload_n 2, 1) := by decide +kernel
theorem dX13_of_28 : decode cX13_of 28 = .ok (.invokevirtual 207, 3) := by decide +kernel
theorem dX13_of_31 : decode cX13_of 31 = .ok (.goto 4, 3) := by decide +kernel
set_option maxHeartbeats 4000000 in
set_option maxRecDepth 100000 in
theorem k_X13_of (l : Launch) (D : va_G) (cy : Nat → ClassId) (ld ad : Nat → Nat) (am : Nat) (hD : mz_D ad am) (Fa : Nat → Int32) (Ga : Nat → Int64) (Ra : Nat → Nat → Int32) (Sa : Nat → Nat → Int64) (p1 : Int32) (p2 : Int32) (hIF : mz_IF true Fa) (hIG : mz_IG Ga) (hIR : mz_IR [] true Ra) : Met l yX13_of (wl yX13_of cX13_of 3 (some .int)) ({ frames := 5, cells := 0, slots := 0, locals := 280 }) (mz_p D cy ld ad am Fa Ga Ra Sa [.ref am, .int p1, .int p2]) (mz_i D cy ad am (fun r F G R S => mz_IF true F ∧ mz_IG G ∧ mz_IR [] true R ∧ (∀ k : Nat, k ∉ ([0] : List Nat) → F k = Fa k) ∧ (∀ k : Nat, k ∉ ([] : List Nat) → R k = Ra k) ∧ (∀ k : Nat, k ∉ ([] : List Nat) → G k = Ga k))) 0 0 (mz_W ad am) := by
  refine mz_met (y := yX13_of) (cc := cX13_of) (maxL := 3) (ret := (some .int)) (av := [.ref am, .int p1, .int p2]) _ (by decide) (Nat.le_of_ble_eq_true rfl) ?_
  intro p e s m args below meth c hx hb hr hml hts htl hown hlocks hK H locs hM hS ls hl
  have hown : s.vm.findClass RX13 = some m.cls := hown
  have hl : lv_has ls 3 [(0, .ref am), (1, .int p1), (2, .int p2)] := hl
  have hr_p1 := tk_rng p1
  have hr_p2 := tk_rng p2
  refine lv_aload_n hx hb dX13_of_0 rfl (lv_at hl 0 rfl) ?_
  refine lv_iconst (v := 0) hx hb dX13_of_1 (by decide) ?_
  have hk_0 : (0 : Int32).toInt = 0 := by decide
  refine mz_putI (ty := .int) (x := 0) hx hb htl hown hK hD hM hS 0 (Nat.le_of_ble_eq_true rfl) rfl (htl _ mw_286) (fun _ h9 => h9) rfl (tyX13_ok 0 (by decide)) rfl rfl dX13_of_2 (fun H locs F hM hS hf9 hj9 => ?_)
  have hIF := hIF.put hf9 hj9 (tk_rng _).1 (tk_rng _).2 (by decide)
  have hFF := mz_frp (K := [0]) (Fa := Fa) hj9 (fun _ _ => rfl) (by decide)
  have hf2 := hf9
  refine lv_aload_n hx hb dX13_of_5 rfl (lv_at hl 0 rfl) ?_
  refine lv_iload_n hx hb dX13_of_6 rfl (lv_at hl 1 rfl) ?_
  refine mz_Vj (As := [.int p1]) (rest := []) ⟨hx, hb, hml, hown, hts⟩ hK hM hS (k_X13_isSinger l D cy ld ad am hD _ _ _ _ p1 (hIF.weak) hIG hIR) ⟨callB_of 1 hts (wl_in mw_320) rfl rfl rfl (htl _ mw_5) (htl _ mw_317) hd_yX13_isSinger ⟨(Nat.le_of_ble_eq_true rfl), (Nat.le_of_ble_eq_true rfl)⟩, htl _ mw_318, htl _ mw_319⟩ rfl hl.1 rfl (Nat.le_of_ble_eq_true rfl) dX13_of_7 ⟨(Nat.le_of_ble_eq_true rfl), (Nat.le_of_ble_eq_true rfl)⟩ (fun v3 H locs hpo hM hS => ?_)
  obtain ⟨hpo4, hpo5, hpo6, hpo10, hpo11⟩ := hpo
  have hq_v3 := tk_rng v3
  refine lv_if_eq (tgt := 34) hx hb dX13_of_10 (by decide) (fun c9 => ?_) (fun c9 => ?_)
  · have hc13 : v3.toInt = 0 := (fi_eq rfl (show (0 : Int32).toInt = 0 by decide)).mp c9
    refine lv_iconst (v := (-1)) hx hb dX13_of_34 (by decide) ?_
    have hk_m1 : ((-1) : Int32).toInt = (-1) := by decide
    exact mz_iret (v := (-1)) hx hb hr rfl hlocks ⟨hIF, hIG, hIR, hFF, (fun _ _ => rfl), (fun _ _ => rfl)⟩ hM hS dX13_of_35
  · have hc13 : ¬ (v3.toInt = 0) := fun h9 => c9 ((fi_eq rfl (show (0 : Int32).toInt = 0 by decide)).mpr h9)
    have hwk_14 : 0 ≤ p1.toInt ∧ p1.toInt ≤ 7 := by omega
    refine lv_iload_n hx hb dX13_of_13 rfl (lv_at hl 2 rfl) ?_
    obtain ⟨w15, e_w15, h_w15⟩ : ∃ z : Int64, p2.toInt64 = z ∧ z.toInt = p2.toInt := ⟨_, rfl, fl_w _⟩
    refine lv_i2l (v := w15) hx hb dX13_of_14 e_w15 ?_
    refine lv_lconst (v := 0) hx hb dX13_of_15 (by decide) ?_
    refine lv_ldc2 hx hb hown (htl _ mw_316) dX13_of_16 ?_
    have hk_0 : (0 : Int64).toInt = 0 := by decide
    have hk_4 : (4 : Int64).toInt = 4 := by decide
    refine mz_Sj (As := [.long w15, .long 0, .long 4]) (rest := []) ⟨hx, hb, hml, hown, hts⟩ hK hM hS (k_X13_in l D cy ld ad am hD _ _ _ _ w15 0 4) ⟨callB_of 3 hts (wl_in mw_292) rfl rfl rfl (htl _ mw_5) (htl _ mw_290) hd_yX13_in ⟨(Nat.le_of_ble_eq_true rfl), (Nat.le_of_ble_eq_true rfl)⟩, htl _ mw_291⟩ rfl hl.1 rfl (Nat.le_of_ble_eq_true rfl) dX13_of_19 ⟨(Nat.le_of_ble_eq_true rfl), (Nat.le_of_ble_eq_true rfl)⟩ (fun v16 H locs hpo hM hS => ?_)
    obtain ⟨hpo17, hpo18, hpo19, hpo20, hpo21, hpo22⟩ := hpo
    have hq_v16 := tk_rng v16
    refine lv_if_eq (tgt := 34) hx hb dX13_of_22 (by decide) (fun c9 => ?_) (fun c9 => ?_)
    · have hc24 : v16.toInt = 0 := (fi_eq rfl (show (0 : Int32).toInt = 0 by decide)).mp c9
      refine lv_iconst (v := (-1)) hx hb dX13_of_34 (by decide) ?_
      have hk_m1 : ((-1) : Int32).toInt = (-1) := by decide
      exact mz_iret (v := (-1)) hx hb hr rfl hlocks ⟨hIF, hIG, hIR, hFF, (fun _ _ => rfl), (fun _ _ => rfl)⟩ hM hS dX13_of_35
    · have hc24 : ¬ (v16.toInt = 0) := fun h9 => c9 ((fi_eq rfl (show (0 : Int32).toInt = 0 by decide)).mpr h9)
      have hwk_25 : 0 ≤ w15.toInt ∧ w15.toInt ≤ 4 := by omega
      refine lv_aload_n hx hb dX13_of_25 rfl (lv_at hl 0 rfl) ?_
      refine lv_iload_n hx hb dX13_of_26 rfl (lv_at hl 1 rfl) ?_
      refine lv_iload_n hx hb dX13_of_27 rfl (lv_at hl 2 rfl) ?_
      refine mz_Vj (As := [.int p1, .int p2]) (rest := []) ⟨hx, hb, hml, hown, hts⟩ hK hM hS (k_X13_ofSinger l D cy ld ad am hD _ _ _ _ p1 p2 (hIF.weak) hIG hIR (by omega) (by omega) (by omega) (by omega)) ⟨callB_of 2 hts (wl_in mw_324) rfl rfl rfl (htl _ mw_5) (htl _ mw_321) hd_yX13_ofSinger ⟨(Nat.le_of_ble_eq_true rfl), (Nat.le_of_ble_eq_true rfl)⟩, htl _ mw_322, htl _ mw_323⟩ rfl hl.1 rfl (Nat.le_of_ble_eq_true rfl) dX13_of_28 ⟨(Nat.le_of_ble_eq_true rfl), (Nat.le_of_ble_eq_true rfl)⟩ (fun v26 H locs hpo hM hS => ?_)
      have hq_v26 := tk_rng v26
      refine lv_goto (tgt := 35) hx hb dX13_of_31 (by decide) ?_
      exact mz_iret (v := v26) hx hb hr rfl hlocks ⟨hIF, hIG, hIR, hFF, (fun _ _ => rfl), (fun _ _ => rfl)⟩ hM hS dX13_of_35
end
