theorem dX13_count_0 : decode cX13_count 0 = .ok (.aload_n 0, 1) := by decide +kernel
theorem dX13_count_1 : decode cX13_count 1 = .ok (.iconst 0, 1) := by decide +kernel
theorem dX13_count_2 : decode cX13_count 2 = .ok (.putfield 170, 3) := by decide +kernel
theorem dX13_count_5 : decode cX13_count 5 = .ok (.iload_n 1, 1) := by decide +kernel
theorem dX13_count_6 : decode cX13_count 6 = .ok (.tableswitch 178 0 14 #[74, 81, 88, 95, 102, 109, 114, 119, 126, 133, 140, 147, 155, 162, 170], 74) := by decide +kernel
theorem dX13_count_80 : decode cX13_count 80 = .ok (.aload_n 0, 1) := by decide +kernel
theorem dX13_count_81 : decode cX13_count 81 = .ok (.getfield 13, 3) := by decide +kernel
theorem dX13_count_84 : decode cX13_count 84 = .ok (.iconst 0, 1) := by decide +kernel
theorem dX13_count_85 : decode cX13_count 85 = .ok (.iaload, 1) := by decide +kernel
theorem dX13_count_86 : decode cX13_count 86 = .ok (.ireturn, 1) := by decide +kernel
theorem dX13_count_87 : decode cX13_count 87 = .ok (.aload_n 0, 1) := by decide +kernel
theorem dX13_count_88 : decode cX13_count 88 = .ok (.getfield 13, 3) := by decide +kernel
theorem dX13_count_91 : decode cX13_count 91 = .ok (.iconst 1, 1) := by decide +kernel
theorem dX13_count_92 : decode cX13_count 92 = .ok (.iaload, 1) := by decide +kernel
theorem dX13_count_93 : decode cX13_count 93 = .ok (.ireturn, 1) := by decide +kernel
theorem dX13_count_94 : decode cX13_count 94 = .ok (.aload_n 0, 1) := by decide +kernel
theorem dX13_count_95 : decode cX13_count 95 = .ok (.getfield 13, 3) := by decide +kernel
theorem dX13_count_98 : decode cX13_count 98 = .ok (.iconst 2, 1) := by decide +kernel
theorem dX13_count_99 : decode cX13_count 99 = .ok (.iaload, 1) := by decide +kernel
theorem dX13_count_100 : decode cX13_count 100 = .ok (.ireturn, 1) := by decide +kernel
theorem dX13_count_101 : decode cX13_count 101 = .ok (.aload_n 0, 1) := by decide +kernel
theorem dX13_count_102 : decode cX13_count 102 = .ok (.getfield 13, 3) := by decide +kernel
theorem dX13_count_105 : decode cX13_count 105 = .ok (.iconst 3, 1) := by decide +kernel
theorem dX13_count_106 : decode cX13_count 106 = .ok (.iaload, 1) := by decide +kernel
theorem dX13_count_107 : decode cX13_count 107 = .ok (.ireturn, 1) := by decide +kernel
theorem dX13_count_108 : decode cX13_count 108 = .ok (.aload_n 0, 1) := by decide +kernel
theorem dX13_count_109 : decode cX13_count 109 = .ok (.getfield 13, 3) := by decide +kernel
theorem dX13_count_112 : decode cX13_count 112 = .ok (.iconst 4, 1) := by decide +kernel
theorem dX13_count_113 : decode cX13_count 113 = .ok (.iaload, 1) := by decide +kernel
theorem dX13_count_114 : decode cX13_count 114 = .ok (.ireturn, 1) := by decide +kernel
theorem dX13_count_115 : decode cX13_count 115 = .ok (.aload_n 0, 1) := by decide +kernel
theorem dX13_count_116 : decode cX13_count 116 = .ok (.getfield 176, 3) := by decide +kernel
theorem dX13_count_119 : decode cX13_count 119 = .ok (.ireturn, 1) := by decide +kernel
theorem dX13_count_120 : decode cX13_count 120 = .ok (.aload_n 0, 1) := by decide +kernel
theorem dX13_count_121 : decode cX13_count 121 = .ok (.getfield 224, 3) := by decide +kernel
theorem dX13_count_124 : decode cX13_count 124 = .ok (.ireturn, 1) := by decide +kernel
theorem dX13_count_125 : decode cX13_count 125 = .ok (.aload_n 0, 1) := by decide +kernel
theorem dX13_count_126 : decode cX13_count 126 = .ok (.getfield 7, 3) := by decide +kernel
theorem dX13_count_129 : decode cX13_count 129 = .ok (.iconst 1, 1) := by decide +kernel
theorem dX13_count_130 : decode cX13_count 130 = .ok (.iaload, 1) := by decide +kernel
theorem dX13_count_131 : decode cX13_count 131 = .ok (.ireturn, 1) := by decide +kernel
theorem dX13_count_132 : decode cX13_count 132 = .ok (.aload_n 0, 1) := by decide +kernel
theorem dX13_count_133 : decode cX13_count 133 = .ok (.getfield 7, 3) := by decide +kernel
theorem dX13_count_136 : decode cX13_count 136 = .ok (.iconst 2, 1) := by decide +kernel
theorem dX13_count_137 : decode cX13_count 137 = .ok (.iaload, 1) := by decide +kernel
theorem dX13_count_138 : decode cX13_count 138 = .ok (.ireturn, 1) := by decide +kernel
theorem dX13_count_139 : decode cX13_count 139 = .ok (.aload_n 0, 1) := by decide +kernel
theorem dX13_count_140 : decode cX13_count 140 = .ok (.getfield 7, 3) := by decide +kernel
theorem dX13_count_143 : decode cX13_count 143 = .ok (.iconst 3, 1) := by decide +kernel
theorem dX13_count_144 : decode cX13_count 144 = .ok (.iaload, 1) := by decide +kernel
theorem dX13_count_145 : decode cX13_count 145 = .ok (.ireturn, 1) := by decide +kernel
theorem dX13_count_146 : decode cX13_count 146 = .ok (.aload_n 0, 1) := by decide +kernel
theorem dX13_count_147 : decode cX13_count 147 = .ok (.getfield 7, 3) := by decide +kernel
theorem dX13_count_150 : decode cX13_count 150 = .ok (.iconst 5, 1) := by decide +kernel
theorem dX13_count_151 : decode cX13_count 151 = .ok (.iaload, 1) := by decide +kernel
theorem dX13_count_152 : decode cX13_count 152 = .ok (.ireturn, 1) := by decide +kernel
theorem dX13_count_153 : decode cX13_count 153 = .ok (.aload_n 0, 1) := by decide +kernel
theorem dX13_count_154 : decode cX13_count 154 = .ok (.getfield 7, 3) := by decide +kernel
theorem dX13_count_157 : decode cX13_count 157 = .ok (.bipush 6, 2) := by decide +kernel
theorem dX13_count_159 : decode cX13_count 159 = .ok (.iaload, 1) := by decide +kernel
theorem dX13_count_160 : decode cX13_count 160 = .ok (.ireturn, 1) := by decide +kernel
theorem dX13_count_161 : decode cX13_count 161 = .ok (.aload_n 0, 1) := by decide +kernel
theorem dX13_count_162 : decode cX13_count 162 = .ok (.getfield 13, 3) := by decide +kernel
theorem dX13_count_165 : decode cX13_count 165 = .ok (.iconst 5, 1) := by decide +kernel
theorem dX13_count_166 : decode cX13_count 166 = .ok (.iaload, 1) := by decide +kernel
theorem dX13_count_167 : decode cX13_count 167 = .ok (.ireturn, 1) := by decide +kernel
theorem dX13_count_168 : decode cX13_count 168 = .ok (.aload_n 0, 1) := by decide +kernel
theorem dX13_count_169 : decode cX13_count 169 = .ok (.getfield 13, 3) := by decide +kernel
theorem dX13_count_172 : decode cX13_count 172 = .ok (.bipush 10, 2) := by decide +kernel
theorem dX13_count_174 : decode cX13_count 174 = .ok (.iaload, 1) := by decide +kernel
theorem dX13_count_175 : decode cX13_count 175 = .ok (.ireturn, 1) := by decide +kernel
theorem dX13_count_176 : decode cX13_count 176 = .ok (.aload_n 0, 1) := by decide +kernel
theorem dX13_count_177 : decode cX13_count 177 = .ok (.getfield 13, 3) := by decide +kernel
theorem dX13_count_180 : decode cX13_count 180 = .ok (.bipush 11, 2) := by decide +kernel
theorem dX13_count_182 : decode cX13_count 182 = .ok (.iaload, 1) := by decide +kernel
theorem dX13_count_183 : decode cX13_count 183 = .ok (.ireturn, 1) := by decide +kernel
theorem dX13_count_184 : decode cX13_count 184 = .ok (.iload_n 1, 1) := by decide +kernel
theorem dX13_count_185 : decode cX13_count 185 = .ok (.i2l, 1) := by decide +kernel
theorem dX13_count_186 : decode cX13_count 186 = .ok (.ldc2_w 643, 3) := by decide +kernel
theorem dX13_count_189 : decode cX13_count 189 = .ok (.ldc2_w 645, 3) := by decide +kernel
theorem dX13_count_192 : decode cX13_count 192 = .ok (.invokestatic 190, 3) := by decide +kernel
theorem dX13_count_195 : decode cX13_count 195 = .ok (.ifCond .eq 18, 3) := by decide +kernel
theorem dX13_count_213 : decode cX13_count 213 = .ok (.iconst (-1), 1) := by decide +kernel
theorem dX13_count_214 : decode cX13_count 214 = .ok (.ireturn, 1) := by decide +kernel
theorem dX13_count_198 : decode cX13_count 198 = .ok (.aload_n 0, 1) := by decide +kernel
theorem dX13_count_199 : decode cX13_count 199 = .ok (.getfield 13, 3) := by decide +kernel
theorem dX13_count_202 : decode cX13_count 202 = .ok (.bipush 6, 2) := by decide +kernel
theorem dX13_count_204 : decode cX13_count 204 = .ok (.iload_n 1, 1) := by decide +kernel
theorem dX13_count_205 : decode cX13_count 205 = .ok (.iadd, 1) := by decide +kernel
theorem dX13_count_206 : decode cX13_count 206 = .ok (.bipush 15, 2) := by decide +kernel
theorem dX13_count_208 : decode cX13_count 208 = .ok (.isub, 1) := by decide +kernel
theorem dX13_count_209 : decode cX13_count 209 = .ok (.iaload, 1) := by decide +kernel
theorem dX13_count_210 : decode cX13_count 210 = .ok (.goto 4, 3) := by decide +kernel
set_option maxHeartbeats 4000000 in
set_option maxRecDepth 100000 in
theorem k_X13_count (l : Launch) (D : va_G) (cy : Nat → ClassId) (ld ad : Nat → Nat) (am : Nat) (hD : mz_D ad am) (Fa : Nat → Int32) (Ga : Nat → Int64) (Ra : Nat → Nat → Int32) (Sa : Nat → Nat → Int64) (p1 : Int32) (hIF : mz_IF true Fa) (hIG : mz_IG Ga) (hIR : mz_IR [] true Ra) : Met l yX13_count (wl yX13_count cX13_count 2 (some .int)) ({ frames := 4, cells := 0, slots := 0, locals := 210 }) (mz_p D cy ld ad am Fa Ga Ra Sa [.ref am, .int p1]) (mz_i D cy ad am (fun r F G R S => mz_IF true F ∧ mz_IG G ∧ mz_IR [] true R ∧ (∀ k : Nat, k ∉ ([0] : List Nat) → F k = Fa k) ∧ (∀ k : Nat, k ∉ ([] : List Nat) → R k = Ra k) ∧ (∀ k : Nat, k ∉ ([] : List Nat) → G k = Ga k))) 0 0 (mz_W ad am) := by
  refine mz_met (y := yX13_count) (cc := cX13_count) (maxL := 2) (ret := (some .int)) (av := [.ref am, .int p1]) _ (by decide) (Nat.le_of_ble_eq_true rfl) ?_
  intro p e s m args below meth c hx hb hr hml hts htl hown hlocks hK H locs hM hS ls hl
  have hown : s.vm.findClass RX13 = some m.cls := hown
  have hl : lv_has ls 2 [(0, .ref am), (1, .int p1)] := hl
  have hr_p1 := tk_rng p1
  refine lv_aload_n hx hb dX13_count_0 rfl (lv_at hl 0 rfl) ?_
  refine lv_iconst (v := 0) hx hb dX13_count_1 (by decide) ?_
  have hk_0 : (0 : Int32).toInt = 0 := by decide
  refine mz_putI (ty := .int) (x := 0) hx hb htl hown hK hD hM hS 0 (Nat.le_of_ble_eq_true rfl) rfl (htl _ mw_286) (fun _ h9 => h9) rfl (tyX13_ok 0 (by decide)) rfl rfl dX13_count_2 (fun H locs F hM hS hf9 hj9 => ?_)
  have hIF := hIF.put hf9 hj9 (tk_rng _).1 (tk_rng _).2 (by decide)
  have hFF := mz_frp (K := [0]) (Fa := Fa) hj9 (fun _ _ => rfl) (by decide)
  have hf2 := hf9
  refine lv_iload_n hx hb dX13_count_5 rfl (lv_at hl 1 rfl) ?_
  rcases (show p1.toInt = 0 ∨ p1.toInt = 1 ∨ p1.toInt = 2 ∨ p1.toInt = 3 ∨ p1.toInt = 4 ∨ p1.toInt = 5 ∨ p1.toInt = 6 ∨ p1.toInt = 7 ∨ p1.toInt = 8 ∨ p1.toInt = 9 ∨ p1.toInt = 10 ∨ p1.toInt = 11 ∨ p1.toInt = 12 ∨ p1.toInt = 13 ∨ p1.toInt = 14 ∨ p1.toInt < 0 ∨ 14 < p1.toInt by omega) with hsw | hsw | hsw | hsw | hsw | hsw | hsw | hsw | hsw | hsw | hsw | hsw | hsw | hsw | hsw | hsw | hsw
  · refine lv_tableIn (off := 74) (tgt := 80) hx hb dX13_count_6 (by omega) (by omega) (by rw [hsw]; rfl) (by decide) ?_
    refine lv_aload_n hx hb dX13_count_80 rfl (lv_at hl 0 rfl) ?_
    refine mz_getR hx hb htl hown hK hM 3 (Nat.le_of_ble_eq_true rfl) (Nat.le_of_ble_eq_true rfl) (htl _ mw_188) (fun _ h9 => h9) dX13_count_81 ?_
    refine lv_iconst (v := 0) hx hb dX13_count_84 (by decide) ?_
    refine mz_iald hx hb hK hM 3 (Nat.le_of_ble_eq_true rfl) rfl (nn := 5560) rfl (I := 0) (by decide) (by decide) (by decide) dX13_count_85 (fun v4 hf3 => ?_)
    have hf3 : Ra 3 0 = v4 := hf3
    have hq_v4 := tk_rng v4
    have hr_v4 : 0 ≤ v4.toInt ∧ v4.toInt ≤ 8 := by have h9 := mz_r3c 0 (hIR.at 3) hf3 (by decide); unfold mE at h9; omega
    exact mz_iret (v := v4) hx hb hr rfl hlocks ⟨hIF, hIG, hIR, hFF, (fun _ _ => rfl), (fun _ _ => rfl)⟩ hM hS dX13_count_86
  · refine lv_tableIn (off := 81) (tgt := 87) hx hb dX13_count_6 (by omega) (by omega) (by rw [hsw]; rfl) (by decide) ?_
    refine lv_aload_n hx hb dX13_count_87 rfl (lv_at hl 0 rfl) ?_
    refine mz_getR hx hb htl hown hK hM 3 (Nat.le_of_ble_eq_true rfl) (Nat.le_of_ble_eq_true rfl) (htl _ mw_188) (fun _ h9 => h9) dX13_count_88 ?_
    refine lv_iconst (v := 1) hx hb dX13_count_91 (by decide) ?_
    refine mz_iald hx hb hK hM 3 (Nat.le_of_ble_eq_true rfl) rfl (nn := 5560) rfl (I := 1) (by decide) (by decide) (by decide) dX13_count_92 (fun v6 hf5 => ?_)
    have hf5 : Ra 3 1 = v6 := hf5
    have hq_v6 := tk_rng v6
    have hr_v6 : 0 ≤ v6.toInt ∧ v6.toInt ≤ 10 := by have h9 := mz_r3c 1 (hIR.at 3) hf5 (by decide); unfold mE at h9; omega
    exact mz_iret (v := v6) hx hb hr rfl hlocks ⟨hIF, hIG, hIR, hFF, (fun _ _ => rfl), (fun _ _ => rfl)⟩ hM hS dX13_count_93
  · refine lv_tableIn (off := 88) (tgt := 94) hx hb dX13_count_6 (by omega) (by omega) (by rw [hsw]; rfl) (by decide) ?_
    refine lv_aload_n hx hb dX13_count_94 rfl (lv_at hl 0 rfl) ?_
    refine mz_getR hx hb htl hown hK hM 3 (Nat.le_of_ble_eq_true rfl) (Nat.le_of_ble_eq_true rfl) (htl _ mw_188) (fun _ h9 => h9) dX13_count_95 ?_
    refine lv_iconst (v := 2) hx hb dX13_count_98 (by decide) ?_
    refine mz_iald hx hb hK hM 3 (Nat.le_of_ble_eq_true rfl) rfl (nn := 5560) rfl (I := 2) (by decide) (by decide) (by decide) dX13_count_99 (fun v8 hf7 => ?_)
    have hf7 : Ra 3 2 = v8 := hf7
    have hq_v8 := tk_rng v8
    have hr_v8 : 0 ≤ v8.toInt ∧ v8.toInt ≤ 10 := by have h9 := mz_r3c 2 (hIR.at 3) hf7 (by decide); unfold mE at h9; omega
    exact mz_iret (v := v8) hx hb hr rfl hlocks ⟨hIF, hIG, hIR, hFF, (fun _ _ => rfl), (fun _ _ => rfl)⟩ hM hS dX13_count_100
  · refine lv_tableIn (off := 95) (tgt := 101) hx hb dX13_count_6 (by omega) (by omega) (by rw [hsw]; rfl) (by decide) ?_
    refine lv_aload_n hx hb dX13_count_101 rfl (lv_at hl 0 rfl) ?_
    refine mz_getR hx hb htl hown hK hM 3 (Nat.le_of_ble_eq_true rfl) (Nat.le_of_ble_eq_true rfl) (htl _ mw_188) (fun _ h9 => h9) dX13_count_102 ?_
    refine lv_iconst (v := 3) hx hb dX13_count_105 (by decide) ?_
    refine mz_iald hx hb hK hM 3 (Nat.le_of_ble_eq_true rfl) rfl (nn := 5560) rfl (I := 3) (by decide) (by decide) (by decide) dX13_count_106 (fun v10 hf9 => ?_)
    have hf9 : Ra 3 3 = v10 := hf9
    have hq_v10 := tk_rng v10
    have hr_v10 : 0 ≤ v10.toInt ∧ v10.toInt ≤ 8 := by have h9 := mz_r3c 3 (hIR.at 3) hf9 (by decide); unfold mE at h9; omega
    exact mz_iret (v := v10) hx hb hr rfl hlocks ⟨hIF, hIG, hIR, hFF, (fun _ _ => rfl), (fun _ _ => rfl)⟩ hM hS dX13_count_107
  · refine lv_tableIn (off := 102) (tgt := 108) hx hb dX13_count_6 (by omega) (by omega) (by rw [hsw]; rfl) (by decide) ?_
    refine lv_aload_n hx hb dX13_count_108 rfl (lv_at hl 0 rfl) ?_
    refine mz_getR hx hb htl hown hK hM 3 (Nat.le_of_ble_eq_true rfl) (Nat.le_of_ble_eq_true rfl) (htl _ mw_188) (fun _ h9 => h9) dX13_count_109 ?_
    refine lv_iconst (v := 4) hx hb dX13_count_112 (by decide) ?_
    refine mz_iald hx hb hK hM 3 (Nat.le_of_ble_eq_true rfl) rfl (nn := 5560) rfl (I := 4) (by decide) (by decide) (by decide) dX13_count_113 (fun v12 hf11 => ?_)
    have hf11 : Ra 3 4 = v12 := hf11
    have hq_v12 := tk_rng v12
    have hr_v12 : 0 ≤ v12.toInt ∧ v12.toInt ≤ 6 := by have h9 := mz_r3c 4 (hIR.at 3) hf11 (by decide); unfold mE at h9; omega
    exact mz_iret (v := v12) hx hb hr rfl hlocks ⟨hIF, hIG, hIR, hFF, (fun _ _ => rfl), (fun _ _ => rfl)⟩ hM hS dX13_count_114
  · refine lv_tableIn (off := 109) (tgt := 115) hx hb dX13_count_6 (by omega) (by omega) (by rw [hsw]; rfl) (by decide) ?_
    refine lv_aload_n hx hb dX13_count_115 rfl (lv_at hl 0 rfl) ?_
    refine mz_getI hx hb htl hown hK hM 8 (Nat.le_of_ble_eq_true rfl) rfl (htl _ mw_289) (fun _ h9 => h9) dX13_count_116 (fun v14 hf13 => ?_)
    have hq_v14 := tk_rng v14
    have hr_v14 : 0 ≤ v14.toInt ∧ v14.toInt ≤ 16 := hIF.at hf13
    exact mz_iret (v := v14) hx hb hr rfl hlocks ⟨hIF, hIG, hIR, hFF, (fun _ _ => rfl), (fun _ _ => rfl)⟩ hM hS dX13_count_119
  · refine lv_tableIn (off := 114) (tgt := 120) hx hb dX13_count_6 (by omega) (by omega) (by rw [hsw]; rfl) (by decide) ?_
    refine lv_aload_n hx hb dX13_count_120 rfl (lv_at hl 0 rfl) ?_
    refine mz_getI hx hb htl hown hK hM 13 (Nat.le_of_ble_eq_true rfl) rfl (htl _ mw_431) (fun _ h9 => h9) dX13_count_121 (fun v16 hf15 => ?_)
    have hq_v16 := tk_rng v16
    have hr_v16 : 0 ≤ v16.toInt ∧ v16.toInt ≤ 400 := hIF.at hf15
    exact mz_iret (v := v16) hx hb hr rfl hlocks ⟨hIF, hIG, hIR, hFF, (fun _ _ => rfl), (fun _ _ => rfl)⟩ hM hS dX13_count_124
  · refine lv_tableIn (off := 119) (tgt := 125) hx hb dX13_count_6 (by omega) (by omega) (by rw [hsw]; rfl) (by decide) ?_
    refine lv_aload_n hx hb dX13_count_125 rfl (lv_at hl 0 rfl) ?_
    refine mz_getR hx hb htl hown hK hM 2 (Nat.le_of_ble_eq_true rfl) (Nat.le_of_ble_eq_true rfl) (htl _ mw_187) (fun _ h9 => h9) dX13_count_126 ?_
    refine lv_iconst (v := 1) hx hb dX13_count_129 (by decide) ?_
    refine mz_iald hx hb hK hM 2 (Nat.le_of_ble_eq_true rfl) rfl (nn := 7) rfl (I := 1) (by decide) (by decide) (by decide) dX13_count_130 (fun v18 hf17 => ?_)
    have hf17 : Ra 2 1 = v18 := hf17
    have hq_v18 := tk_rng v18
    exact mz_iret (v := v18) hx hb hr rfl hlocks ⟨hIF, hIG, hIR, hFF, (fun _ _ => rfl), (fun _ _ => rfl)⟩ hM hS dX13_count_131
  · refine lv_tableIn (off := 126) (tgt := 132) hx hb dX13_count_6 (by omega) (by omega) (by rw [hsw]; rfl) (by decide) ?_
    refine lv_aload_n hx hb dX13_count_132 rfl (lv_at hl 0 rfl) ?_
    refine mz_getR hx hb htl hown hK hM 2 (Nat.le_of_ble_eq_true rfl) (Nat.le_of_ble_eq_true rfl) (htl _ mw_187) (fun _ h9 => h9) dX13_count_133 ?_
    refine lv_iconst (v := 2) hx hb dX13_count_136 (by decide) ?_
    refine mz_iald hx hb hK hM 2 (Nat.le_of_ble_eq_true rfl) rfl (nn := 7) rfl (I := 2) (by decide) (by decide) (by decide) dX13_count_137 (fun v20 hf19 => ?_)
    have hf19 : Ra 2 2 = v20 := hf19
    have hq_v20 := tk_rng v20
    exact mz_iret (v := v20) hx hb hr rfl hlocks ⟨hIF, hIG, hIR, hFF, (fun _ _ => rfl), (fun _ _ => rfl)⟩ hM hS dX13_count_138
  · refine lv_tableIn (off := 133) (tgt := 139) hx hb dX13_count_6 (by omega) (by omega) (by rw [hsw]; rfl) (by decide) ?_
    refine lv_aload_n hx hb dX13_count_139 rfl (lv_at hl 0 rfl) ?_
    refine mz_getR hx hb htl hown hK hM 2 (Nat.le_of_ble_eq_true rfl) (Nat.le_of_ble_eq_true rfl) (htl _ mw_187) (fun _ h9 => h9) dX13_count_140 ?_
    refine lv_iconst (v := 3) hx hb dX13_count_143 (by decide) ?_
    refine mz_iald hx hb hK hM 2 (Nat.le_of_ble_eq_true rfl) rfl (nn := 7) rfl (I := 3) (by decide) (by decide) (by decide) dX13_count_144 (fun v22 hf21 => ?_)
    have hf21 : Ra 2 3 = v22 := hf21
    have hq_v22 := tk_rng v22
    exact mz_iret (v := v22) hx hb hr rfl hlocks ⟨hIF, hIG, hIR, hFF, (fun _ _ => rfl), (fun _ _ => rfl)⟩ hM hS dX13_count_145
  · refine lv_tableIn (off := 140) (tgt := 146) hx hb dX13_count_6 (by omega) (by omega) (by rw [hsw]; rfl) (by decide) ?_
    refine lv_aload_n hx hb dX13_count_146 rfl (lv_at hl 0 rfl) ?_
    refine mz_getR hx hb htl hown hK hM 2 (Nat.le_of_ble_eq_true rfl) (Nat.le_of_ble_eq_true rfl) (htl _ mw_187) (fun _ h9 => h9) dX13_count_147 ?_
    refine lv_iconst (v := 5) hx hb dX13_count_150 (by decide) ?_
    refine mz_iald hx hb hK hM 2 (Nat.le_of_ble_eq_true rfl) rfl (nn := 7) rfl (I := 5) (by decide) (by decide) (by decide) dX13_count_151 (fun v24 hf23 => ?_)
    have hf23 : Ra 2 5 = v24 := hf23
    have hq_v24 := tk_rng v24
    exact mz_iret (v := v24) hx hb hr rfl hlocks ⟨hIF, hIG, hIR, hFF, (fun _ _ => rfl), (fun _ _ => rfl)⟩ hM hS dX13_count_152
  · refine lv_tableIn (off := 147) (tgt := 153) hx hb dX13_count_6 (by omega) (by omega) (by rw [hsw]; rfl) (by decide) ?_
    refine lv_aload_n hx hb dX13_count_153 rfl (lv_at hl 0 rfl) ?_
    refine mz_getR hx hb htl hown hK hM 2 (Nat.le_of_ble_eq_true rfl) (Nat.le_of_ble_eq_true rfl) (htl _ mw_187) (fun _ h9 => h9) dX13_count_154 ?_
    refine lv_bipush (v := 6) hx hb dX13_count_157 (by decide) ?_
    refine mz_iald hx hb hK hM 2 (Nat.le_of_ble_eq_true rfl) rfl (nn := 7) rfl (I := 6) (by decide) (by decide) (by decide) dX13_count_159 (fun v26 hf25 => ?_)
    have hf25 : Ra 2 6 = v26 := hf25
    have hq_v26 := tk_rng v26
    exact mz_iret (v := v26) hx hb hr rfl hlocks ⟨hIF, hIG, hIR, hFF, (fun _ _ => rfl), (fun _ _ => rfl)⟩ hM hS dX13_count_160
  · refine lv_tableIn (off := 155) (tgt := 161) hx hb dX13_count_6 (by omega) (by omega) (by rw [hsw]; rfl) (by decide) ?_
    refine lv_aload_n hx hb dX13_count_161 rfl (lv_at hl 0 rfl) ?_
    refine mz_getR hx hb htl hown hK hM 3 (Nat.le_of_ble_eq_true rfl) (Nat.le_of_ble_eq_true rfl) (htl _ mw_188) (fun _ h9 => h9) dX13_count_162 ?_
    refine lv_iconst (v := 5) hx hb dX13_count_165 (by decide) ?_
    refine mz_iald hx hb hK hM 3 (Nat.le_of_ble_eq_true rfl) rfl (nn := 5560) rfl (I := 5) (by decide) (by decide) (by decide) dX13_count_166 (fun v28 hf27 => ?_)
    have hf27 : Ra 3 5 = v28 := hf27
    have hq_v28 := tk_rng v28
    have hr_v28 : (-1) ≤ v28.toInt ∧ v28.toInt ≤ 5 := by have h9 := mz_r3c 5 (hIR.at 3) hf27 (by decide); unfold mE at h9; omega
    exact mz_iret (v := v28) hx hb hr rfl hlocks ⟨hIF, hIG, hIR, hFF, (fun _ _ => rfl), (fun _ _ => rfl)⟩ hM hS dX13_count_167
  · refine lv_tableIn (off := 162) (tgt := 168) hx hb dX13_count_6 (by omega) (by omega) (by rw [hsw]; rfl) (by decide) ?_
    refine lv_aload_n hx hb dX13_count_168 rfl (lv_at hl 0 rfl) ?_
    refine mz_getR hx hb htl hown hK hM 3 (Nat.le_of_ble_eq_true rfl) (Nat.le_of_ble_eq_true rfl) (htl _ mw_188) (fun _ h9 => h9) dX13_count_169 ?_
    refine lv_bipush (v := 10) hx hb dX13_count_172 (by decide) ?_
    refine mz_iald hx hb hK hM 3 (Nat.le_of_ble_eq_true rfl) rfl (nn := 5560) rfl (I := 10) (by decide) (by decide) (by decide) dX13_count_174 (fun v30 hf29 => ?_)
    have hf29 : Ra 3 10 = v30 := hf29
    have hq_v30 := tk_rng v30
    exact mz_iret (v := v30) hx hb hr rfl hlocks ⟨hIF, hIG, hIR, hFF, (fun _ _ => rfl), (fun _ _ => rfl)⟩ hM hS dX13_count_175
  · refine lv_tableIn (off := 170) (tgt := 176) hx hb dX13_count_6 (by omega) (by omega) (by rw [hsw]; rfl) (by decide) ?_
    refine lv_aload_n hx hb dX13_count_176 rfl (lv_at hl 0 rfl) ?_
    refine mz_getR hx hb htl hown hK hM 3 (Nat.le_of_ble_eq_true rfl) (Nat.le_of_ble_eq_true rfl) (htl _ mw_188) (fun _ h9 => h9) dX13_count_177 ?_
    refine lv_bipush (v := 11) hx hb dX13_count_180 (by decide) ?_
    refine mz_iald hx hb hK hM 3 (Nat.le_of_ble_eq_true rfl) rfl (nn := 5560) rfl (I := 11) (by decide) (by decide) (by decide) dX13_count_182 (fun v32 hf31 => ?_)
    have hf31 : Ra 3 11 = v32 := hf31
    have hq_v32 := tk_rng v32
    exact mz_iret (v := v32) hx hb hr rfl hlocks ⟨hIF, hIG, hIR, hFF, (fun _ _ => rfl), (fun _ _ => rfl)⟩ hM hS dX13_count_183
  · refine lv_tableOut (tgt := 184) hx hb dX13_count_6 (by omega) (by decide) ?_
    refine lv_iload_n hx hb dX13_count_184 rfl (lv_at hl 1 rfl) ?_
    obtain ⟨w33, e_w33, h_w33⟩ : ∃ z : Int64, p1.toInt64 = z ∧ z.toInt = p1.toInt := ⟨_, rfl, fl_w _⟩
    refine lv_i2l (v := w33) hx hb dX13_count_185 e_w33 ?_
    refine lv_ldc2 hx hb hown (htl _ mw_1737) dX13_count_186 ?_
    refine lv_ldc2 hx hb hown (htl _ mw_1738) dX13_count_189 ?_
    have hk_15 : (15 : Int64).toInt = 15 := by decide
    have hk_18 : (18 : Int64).toInt = 18 := by decide
    refine mz_Sj (As := [.long w33, .long 15, .long 18]) (rest := []) ⟨hx, hb, hml, hown, hts⟩ hK hM hS (k_X13_in l D cy ld ad am hD _ _ _ _ w33 15 18) ⟨callB_of 3 hts (wl_in mw_292) rfl rfl rfl (htl _ mw_5) (htl _ mw_290) hd_yX13_in ⟨(Nat.le_of_ble_eq_true rfl), (Nat.le_of_ble_eq_true rfl)⟩, htl _ mw_291⟩ rfl hl.1 rfl (Nat.le_of_ble_eq_true rfl) dX13_count_192 ⟨(Nat.le_of_ble_eq_true rfl), (Nat.le_of_ble_eq_true rfl)⟩ (fun v34 H locs hpo hM hS => ?_)
    obtain ⟨hpo35, hpo36, hpo37, hpo38, hpo39, hpo40⟩ := hpo
    have hq_v34 := tk_rng v34
    refine lv_if_eq (tgt := 213) hx hb dX13_count_195 (by decide) (fun c9 => ?_) (fun c9 => ?_)
    · have hc42 : v34.toInt = 0 := (fi_eq rfl (show (0 : Int32).toInt = 0 by decide)).mp c9
      refine lv_iconst (v := (-1)) hx hb dX13_count_213 (by decide) ?_
      have hk_m1 : ((-1) : Int32).toInt = (-1) := by decide
      exact mz_iret (v := (-1)) hx hb hr rfl hlocks ⟨hIF, hIG, hIR, hFF, (fun _ _ => rfl), (fun _ _ => rfl)⟩ hM hS dX13_count_214
    · have hc42 : ¬ (v34.toInt = 0) := fun h9 => c9 ((fi_eq rfl (show (0 : Int32).toInt = 0 by decide)).mpr h9)
      have hwk_43 : 15 ≤ w33.toInt := by omega
      exfalso
      omega
  · refine lv_tableOut (tgt := 184) hx hb dX13_count_6 (by omega) (by decide) ?_
    refine lv_iload_n hx hb dX13_count_184 rfl (lv_at hl 1 rfl) ?_
    obtain ⟨w44, e_w44, h_w44⟩ : ∃ z : Int64, p1.toInt64 = z ∧ z.toInt = p1.toInt := ⟨_, rfl, fl_w _⟩
    refine lv_i2l (v := w44) hx hb dX13_count_185 e_w44 ?_
    refine lv_ldc2 hx hb hown (htl _ mw_1737) dX13_count_186 ?_
    refine lv_ldc2 hx hb hown (htl _ mw_1738) dX13_count_189 ?_
    have hk_15 : (15 : Int64).toInt = 15 := by decide
    have hk_18 : (18 : Int64).toInt = 18 := by decide
    refine mz_Sj (As := [.long w44, .long 15, .long 18]) (rest := []) ⟨hx, hb, hml, hown, hts⟩ hK hM hS (k_X13_in l D cy ld ad am hD _ _ _ _ w44 15 18) ⟨callB_of 3 hts (wl_in mw_292) rfl rfl rfl (htl _ mw_5) (htl _ mw_290) hd_yX13_in ⟨(Nat.le_of_ble_eq_true rfl), (Nat.le_of_ble_eq_true rfl)⟩, htl _ mw_291⟩ rfl hl.1 rfl (Nat.le_of_ble_eq_true rfl) dX13_count_192 ⟨(Nat.le_of_ble_eq_true rfl), (Nat.le_of_ble_eq_true rfl)⟩ (fun v45 H locs hpo hM hS => ?_)
    obtain ⟨hpo46, hpo47, hpo48, hpo49, hpo50, hpo51⟩ := hpo
    have hq_v45 := tk_rng v45
    refine lv_if_eq (tgt := 213) hx hb dX13_count_195 (by decide) (fun c9 => ?_) (fun c9 => ?_)
    · have hc53 : v45.toInt = 0 := (fi_eq rfl (show (0 : Int32).toInt = 0 by decide)).mp c9
      have hwk_54 : 19 ≤ w44.toInt := by omega
      refine lv_iconst (v := (-1)) hx hb dX13_count_213 (by decide) ?_
      have hk_m1 : ((-1) : Int32).toInt = (-1) := by decide
      exact mz_iret (v := (-1)) hx hb hr rfl hlocks ⟨hIF, hIG, hIR, hFF, (fun _ _ => rfl), (fun _ _ => rfl)⟩ hM hS dX13_count_214
    · have hc53 : ¬ (v45.toInt = 0) := fun h9 => c9 ((fi_eq rfl (show (0 : Int32).toInt = 0 by decide)).mpr h9)
      have hwk_55 : w44.toInt ≤ 18 := by omega
      refine lv_aload_n hx hb dX13_count_198 rfl (lv_at hl 0 rfl) ?_
      refine mz_getR hx hb htl hown hK hM 3 (Nat.le_of_ble_eq_true rfl) (Nat.le_of_ble_eq_true rfl) (htl _ mw_188) (fun _ h9 => h9) dX13_count_199 ?_
      refine lv_bipush (v := 6) hx hb dX13_count_202 (by decide) ?_
      refine lv_iload_n hx hb dX13_count_204 rfl (lv_at hl 1 rfl) ?_
      refine lv_iadd hx hb dX13_count_205 ?_
      refine tk_add (show (6 : Int32).toInt = 6 by decide) rfl (by omega) (by omega) (fun v56 h_v56 => ?_)
      refine lv_bipush (v := 15) hx hb dX13_count_206 (by decide) ?_
      refine lv_isub hx hb dX13_count_208 ?_
      refine tk_sub rfl (show (15 : Int32).toInt = 15 by decide) (by omega) (by omega) (fun v57 h_v57 => ?_)
      refine mz_iald hx hb hK hM 3 (Nat.le_of_ble_eq_true rfl) rfl (nn := 5560) rfl rfl (by omega) (by omega) dX13_count_209 (fun v58 e_v58 => ?_)
      have hq_v58 := tk_rng v58
      refine lv_goto (tgt := 214) hx hb dX13_count_210 (by decide) ?_
      exact mz_iret (v := v58) hx hb hr rfl hlocks ⟨hIF, hIG, hIR, hFF, (fun _ _ => rfl), (fun _ _ => rfl)⟩ hM hS dX13_count_214
