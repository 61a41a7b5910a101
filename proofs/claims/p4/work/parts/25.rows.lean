theorem dX12_back_0 : decode cX12_back 0 = .ok (.iload_n 1, 1) := by decide +kernel
theorem dX12_back_1 : decode cX12_back 1 = .ok (.iconst 0, 1) := by decide +kernel
theorem dX12_back_2 : decode cX12_back 2 = .ok (.iconst 1, 1) := by decide +kernel
theorem dX12_back_3 : decode cX12_back 3 = .ok (.invokestatic 146, 3) := by decide +kernel
theorem dX12_back_6 : decode cX12_back 6 = .ok (.ifCond .ne 9, 3) := by decide +kernel
theorem dX12_back_15 : decode cX12_back 15 = .ok (.aload_n 0, 1) := by decide +kernel
theorem dX12_back_16 : decode cX12_back 16 = .ok (.getfield 20, 3) := by decide +kernel
theorem dX12_back_19 : decode cX12_back 19 = .ok (.iload_n 1, 1) := by decide +kernel
theorem dX12_back_20 : decode cX12_back 20 = .ok (.baload, 1) := by decide +kernel
theorem dX12_back_21 : decode cX12_back 21 = .ok (.ifCond .ne 10, 3) := by decide +kernel
theorem dX12_back_31 : decode cX12_back 31 = .ok (.aload_n 0, 1) := by decide +kernel
theorem dX12_back_32 : decode cX12_back 32 = .ok (.getfield 10, 3) := by decide +kernel
theorem dX12_back_35 : decode cX12_back 35 = .ok (.aload_n 0, 1) := by decide +kernel
theorem dX12_back_36 : decode cX12_back 36 = .ok (.getfield 16, 3) := by decide +kernel
theorem dX12_back_39 : decode cX12_back 39 = .ok (.iload_n 1, 1) := by decide +kernel
theorem dX12_back_40 : decode cX12_back 40 = .ok (.aaload, 1) := by decide +kernel
theorem dX12_back_41 : decode cX12_back 41 = .ok (.invokevirtual 345, 3) := by decide +kernel
theorem dX12_back_44 : decode cX12_back 44 = .ok (.aload_n 0, 1) := by decide +kernel
theorem dX12_back_45 : decode cX12_back 45 = .ok (.getfield 38, 3) := by decide +kernel
theorem dX12_back_48 : decode cX12_back 48 = .ok (.invokevirtual 107, 3) := by decide +kernel
theorem dX12_back_51 : decode cX12_back 51 = .ok (.aload_n 0, 1) := by decide +kernel
theorem dX12_back_52 : decode cX12_back 52 = .ok (.iconst 0, 1) := by decide +kernel
theorem dX12_back_53 : decode cX12_back 53 = .ok (.invokevirtual 165, 3) := by decide +kernel
theorem dX12_back_56 : decode cX12_back 56 = .ok (.ireturn, 1) := by decide +kernel
theorem dX12_back_24 : decode cX12_back 24 = .ok (.aload_n 0, 1) := by decide +kernel
theorem dX12_back_25 : decode cX12_back 25 = .ok (.bipush (-2), 2) := by decide +kernel
theorem dX12_back_27 : decode cX12_back 27 = .ok (.invokevirtual 159, 3) := by decide +kernel
theorem dX12_back_30 : decode cX12_back 30 = .ok (.ireturn, 1) := by decide +kernel
theorem dX12_back_9 : decode cX12_back 9 = .ok (.aload_n 0, 1) := by decide +kernel
theorem dX12_back_10 : decode cX12_back 10 = .ok (.iconst (-1), 1) := by decide +kernel
theorem dX12_back_11 : decode cX12_back 11 = .ok (.invokevirtual 159, 3) := by decide +kernel
theorem dX12_back_14 : decode cX12_back 14 = .ok (.ireturn, 1) := by decide +kernel
theorem dX12_count_0 : decode cX12_count 0 = .ok (.iload_n 1, 1) := by decide +kernel
theorem dX12_count_1 : decode cX12_count 1 = .ok (.tableswitch 162 0 14 #[75, 83, 91, 99, 107, 115, 123, 162, 162, 162, 162, 162, 128, 136, 149], 75) := by decide +kernel
theorem dX12_count_76 : decode cX12_count 76 = .ok (.aload_n 0, 1) := by decide +kernel
theorem dX12_count_77 : decode cX12_count 77 = .ok (.getfield 10, 3) := by decide +kernel
theorem dX12_count_80 : decode cX12_count 80 = .ok (.getfield 348, 3) := by decide +kernel
theorem dX12_count_83 : decode cX12_count 83 = .ok (.ireturn, 1) := by decide +kernel
theorem dX12_count_84 : decode cX12_count 84 = .ok (.aload_n 0, 1) := by decide +kernel
theorem dX12_count_85 : decode cX12_count 85 = .ok (.getfield 10, 3) := by decide +kernel
theorem dX12_count_88 : decode cX12_count 88 = .ok (.getfield 277, 3) := by decide +kernel
theorem dX12_count_91 : decode cX12_count 91 = .ok (.ireturn, 1) := by decide +kernel
theorem dX12_count_92 : decode cX12_count 92 = .ok (.aload_n 0, 1) := by decide +kernel
theorem dX12_count_93 : decode cX12_count 93 = .ok (.getfield 10, 3) := by decide +kernel
theorem dX12_count_96 : decode cX12_count 96 = .ok (.getfield 349, 3) := by decide +kernel
theorem dX12_count_99 : decode cX12_count 99 = .ok (.ireturn, 1) := by decide +kernel
theorem dX12_count_100 : decode cX12_count 100 = .ok (.aload_n 0, 1) := by decide +kernel
theorem dX12_count_101 : decode cX12_count 101 = .ok (.getfield 10, 3) := by decide +kernel
theorem dX12_count_104 : decode cX12_count 104 = .ok (.getfield 303, 3) := by decide +kernel
theorem dX12_count_107 : decode cX12_count 107 = .ok (.ireturn, 1) := by decide +kernel
theorem dX12_count_108 : decode cX12_count 108 = .ok (.aload_n 0, 1) := by decide +kernel
theorem dX12_count_109 : decode cX12_count 109 = .ok (.getfield 10, 3) := by decide +kernel
theorem dX12_count_112 : decode cX12_count 112 = .ok (.getfield 188, 3) := by decide +kernel
theorem dX12_count_115 : decode cX12_count 115 = .ok (.ireturn, 1) := by decide +kernel
theorem dX12_count_116 : decode cX12_count 116 = .ok (.aload_n 0, 1) := by decide +kernel
theorem dX12_count_117 : decode cX12_count 117 = .ok (.getfield 38, 3) := by decide +kernel
theorem dX12_count_120 : decode cX12_count 120 = .ok (.getfield 352, 3) := by decide +kernel
theorem dX12_count_123 : decode cX12_count 123 = .ok (.ireturn, 1) := by decide +kernel
theorem dX12_count_124 : decode cX12_count 124 = .ok (.aload_n 0, 1) := by decide +kernel
theorem dX12_count_125 : decode cX12_count 125 = .ok (.getfield 178, 3) := by decide +kernel
theorem dX12_count_128 : decode cX12_count 128 = .ok (.ireturn, 1) := by decide +kernel
theorem dX12_count_163 : decode cX12_count 163 = .ok (.iload_n 1, 1) := by decide +kernel
theorem dX12_count_164 : decode cX12_count 164 = .ok (.bipush 7, 2) := by decide +kernel
theorem dX12_count_166 : decode cX12_count 166 = .ok (.bipush 11, 2) := by decide +kernel
theorem dX12_count_168 : decode cX12_count 168 = .ok (.invokestatic 146, 3) := by decide +kernel
theorem dX12_count_171 : decode cX12_count 171 = .ok (.ifCond .eq 13, 3) := by decide +kernel
theorem dX12_count_184 : decode cX12_count 184 = .ok (.iload_n 1, 1) := by decide +kernel
theorem dX12_count_185 : decode cX12_count 185 = .ok (.bipush 15, 2) := by decide +kernel
theorem dX12_count_187 : decode cX12_count 187 = .ok (.bipush 18, 2) := by decide +kernel
theorem dX12_count_189 : decode cX12_count 189 = .ok (.invokestatic 146, 3) := by decide +kernel
theorem dX12_count_192 : decode cX12_count 192 = .ok (.ifCond .eq 17, 3) := by decide +kernel
theorem dX12_count_209 : decode cX12_count 209 = .ok (.iconst (-1), 1) := by decide +kernel
theorem dX12_count_210 : decode cX12_count 210 = .ok (.ireturn, 1) := by decide +kernel
theorem dX12_count_195 : decode cX12_count 195 = .ok (.aload_n 0, 1) := by decide +kernel
theorem dX12_count_196 : decode cX12_count 196 = .ok (.getfield 10, 3) := by decide +kernel
theorem dX12_count_199 : decode cX12_count 199 = .ok (.iload_n 1, 1) := by decide +kernel
theorem dX12_count_200 : decode cX12_count 200 = .ok (.bipush 15, 2) := by decide +kernel
theorem dX12_count_202 : decode cX12_count 202 = .ok (.isub, 1) := by decide +kernel
theorem dX12_count_203 : decode cX12_count 203 = .ok (.invokevirtual 171, 3) := by decide +kernel
theorem dX12_count_206 : decode cX12_count 206 = .ok (.goto 4, 3) := by decide +kernel
theorem dX12_count_174 : decode cX12_count 174 = .ok (.aload_n 0, 1) := by decide +kernel
theorem dX12_count_175 : decode cX12_count 175 = .ok (.getfield 96, 3) := by decide +kernel
theorem dX12_count_178 : decode cX12_count 178 = .ok (.iload_n 1, 1) := by decide +kernel
theorem dX12_count_179 : decode cX12_count 179 = .ok (.bipush 7, 2) := by decide +kernel
theorem dX12_count_181 : decode cX12_count 181 = .ok (.isub, 1) := by decide +kernel
theorem dX12_count_182 : decode cX12_count 182 = .ok (.iaload, 1) := by decide +kernel
theorem dX12_count_183 : decode cX12_count 183 = .ok (.ireturn, 1) := by decide +kernel
theorem dX12_count_129 : decode cX12_count 129 = .ok (.aload_n 0, 1) := by decide +kernel
theorem dX12_count_130 : decode cX12_count 130 = .ok (.getfield 10, 3) := by decide +kernel
theorem dX12_count_133 : decode cX12_count 133 = .ok (.getfield 215, 3) := by decide +kernel
theorem dX12_count_136 : decode cX12_count 136 = .ok (.ireturn, 1) := by decide +kernel
theorem dX12_count_137 : decode cX12_count 137 = .ok (.aload_n 0, 1) := by decide +kernel
theorem dX12_count_138 : decode cX12_count 138 = .ok (.getfield 10, 3) := by decide +kernel
theorem dX12_count_141 : decode cX12_count 141 = .ok (.getfield 118, 3) := by decide +kernel
theorem dX12_count_144 : decode cX12_count 144 = .ok (.getfield 168, 3) := by decide +kernel
theorem dX12_count_147 : decode cX12_count 147 = .ok (.iconst 0, 1) := by decide +kernel
theorem dX12_count_148 : decode cX12_count 148 = .ok (.iaload, 1) := by decide +kernel
theorem dX12_count_149 : decode cX12_count 149 = .ok (.ireturn, 1) := by decide +kernel
theorem dX12_count_150 : decode cX12_count 150 = .ok (.aload_n 0, 1) := by decide +kernel
theorem dX12_count_151 : decode cX12_count 151 = .ok (.getfield 10, 3) := by decide +kernel
theorem dX12_count_154 : decode cX12_count 154 = .ok (.getfield 118, 3) := by decide +kernel
theorem dX12_count_157 : decode cX12_count 157 = .ok (.getfield 168, 3) := by decide +kernel
theorem dX12_count_160 : decode cX12_count 160 = .ok (.iconst 1, 1) := by decide +kernel
theorem dX12_count_161 : decode cX12_count 161 = .ok (.iaload, 1) := by decide +kernel
theorem dX12_count_162 : decode cX12_count 162 = .ok (.ireturn, 1) := by decide +kernel
set_option maxHeartbeats 4000000 in
set_option maxRecDepth 100000 in
theorem k_X12_count (l : Launch) (D : va_G) (cy : Nat → ClassId) (ld : Nat → Nat) (t : tk_T) (a0 : Nat) (p1 : Int32) (ht_a0 : t a0 = (13, 0, 0)) : Met l yX12_count (wl yX12_count cX12_count 2 (some .int)) ({ frames := 4, cells := 0, slots := 0, locals := 210 }) (tp D cy ld t [] [.ref a0, .int p1] (fun H => True)) (ti D cy ld t [] (fun r H => True) (tk_w t [])) 0 0 (tk_w t []) := by
  refine tk_met (y := yX12_count) (cc := cX12_count) (maxL := 2) (ret := (some .int)) (av := [.ref a0, .int p1]) _ _ (by decide) (Nat.le_of_ble_eq_true rfl) ?_
  intro p e s m args below meth c hx hb hr hml hts htl hown hlocks hK H locs hH hG hS hB hZ ls hl
  have hown : s.vm.findClass RX12 = some m.cls := hown
  have hl : lv_has ls 2 [(0, .ref a0), (1, .int p1)] := hl
  have hr_p1 := tk_rng p1
  refine lv_iload_n hx hb dX12_count_0 rfl (lv_at hl 1 rfl) ?_
  rcases (show p1.toInt = 0 ∨ p1.toInt = 1 ∨ p1.toInt = 2 ∨ p1.toInt = 3 ∨ p1.toInt = 4 ∨ p1.toInt = 5 ∨ p1.toInt = 6 ∨ p1.toInt = 7 ∨ p1.toInt = 8 ∨ p1.toInt = 9 ∨ p1.toInt = 10 ∨ p1.toInt = 11 ∨ p1.toInt = 12 ∨ p1.toInt = 13 ∨ p1.toInt = 14 ∨ p1.toInt < 0 ∨ 14 < p1.toInt by omega) with hsw | hsw | hsw | hsw | hsw | hsw | hsw | hsw | hsw | hsw | hsw | hsw | hsw | hsw | hsw | hsw | hsw
  · refine lv_tableIn (off := 75) (tgt := 76) hx hb dX12_count_1 (by omega) (by omega) (by rw [hsw]; rfl) (by decide) ?_
    refine lv_aload_n hx hb dX12_count_76 rfl (lv_at hl 0 rfl) ?_
    refine tk_get (ci := 12) (C := RX12) (T := TX12) (N := 17) (sp := (8, 20, 3, 0)) hx hb htl inX12 hown hK hG ht_a0 (by decide) tk_no rfl 0 (by decide) (htl _ mw_15) (fun _ h9 => h9) rfl dX12_count_77 (fun v9 hf1 hV9 => ?_)
    obtain ⟨rfl, ht_ld20⟩ := hV9
    have ht_ld20 : t (ld 20) = (3, 0, 0) := ht_ld20
    refine fx_top (v := .ref (ld 20)) rfl ?_
    refine tk_get (ci := 2) (C := RX2) (T := TX2) (N := 20) (sp := (0, 0, 8, 0)) hx hb htl inX2 hown hK hG ht_ld20 (by decide) tk_no rfl 0 (by decide) (htl _ mw_1730) (fun _ h9 => h9) rfl dX12_count_80 (fun v9 hf2 hV9 => ?_)
    obtain ⟨v3, rfl, (ha_v3 : 0 ≤ v3.toInt), (hb_v3 : v3.toInt ≤ 8)⟩ := hV9
    exact tk_iret (v := v3) hx hb hr rfl hlocks trivial hG hS dX12_count_83
  · refine lv_tableIn (off := 83) (tgt := 84) hx hb dX12_count_1 (by omega) (by omega) (by rw [hsw]; rfl) (by decide) ?_
    refine lv_aload_n hx hb dX12_count_84 rfl (lv_at hl 0 rfl) ?_
    refine tk_get (ci := 12) (C := RX12) (T := TX12) (N := 17) (sp := (8, 20, 3, 0)) hx hb htl inX12 hown hK hG ht_a0 (by decide) tk_no rfl 0 (by decide) (htl _ mw_15) (fun _ h9 => h9) rfl dX12_count_85 (fun v9 hf4 hV9 => ?_)
    obtain ⟨rfl, ht_ld20⟩ := hV9
    have ht_ld20 : t (ld 20) = (3, 0, 0) := ht_ld20
    refine fx_top (v := .ref (ld 20)) rfl ?_
    refine tk_get (ci := 2) (C := RX2) (T := TX2) (N := 20) (sp := (0, 0, 10, 0)) hx hb htl inX2 hown hK hG ht_ld20 (by decide) tk_no rfl 4 (by decide) (htl _ mw_1331) (fun _ h9 => h9) rfl dX12_count_88 (fun v9 hf5 hV9 => ?_)
    obtain ⟨v6, rfl, (ha_v6 : 0 ≤ v6.toInt), (hb_v6 : v6.toInt ≤ 10)⟩ := hV9
    exact tk_iret (v := v6) hx hb hr rfl hlocks trivial hG hS dX12_count_91
  · refine lv_tableIn (off := 91) (tgt := 92) hx hb dX12_count_1 (by omega) (by omega) (by rw [hsw]; rfl) (by decide) ?_
    refine lv_aload_n hx hb dX12_count_92 rfl (lv_at hl 0 rfl) ?_
    refine tk_get (ci := 12) (C := RX12) (T := TX12) (N := 17) (sp := (8, 20, 3, 0)) hx hb htl inX12 hown hK hG ht_a0 (by decide) tk_no rfl 0 (by decide) (htl _ mw_15) (fun _ h9 => h9) rfl dX12_count_93 (fun v9 hf7 hV9 => ?_)
    obtain ⟨rfl, ht_ld20⟩ := hV9
    have ht_ld20 : t (ld 20) = (3, 0, 0) := ht_ld20
    refine fx_top (v := .ref (ld 20)) rfl ?_
    refine tk_get (ci := 2) (C := RX2) (T := TX2) (N := 20) (sp := (0, 0, 10, 0)) hx hb htl inX2 hown hK hG ht_ld20 (by decide) tk_no rfl 7 (by decide) (htl _ mw_1731) (fun _ h9 => h9) rfl dX12_count_96 (fun v9 hf8 hV9 => ?_)
    obtain ⟨v9, rfl, (ha_v9 : 0 ≤ v9.toInt), (hb_v9 : v9.toInt ≤ 10)⟩ := hV9
    exact tk_iret (v := v9) hx hb hr rfl hlocks trivial hG hS dX12_count_99
  · refine lv_tableIn (off := 99) (tgt := 100) hx hb dX12_count_1 (by omega) (by omega) (by rw [hsw]; rfl) (by decide) ?_
    refine lv_aload_n hx hb dX12_count_100 rfl (lv_at hl 0 rfl) ?_
    refine tk_get (ci := 12) (C := RX12) (T := TX12) (N := 17) (sp := (8, 20, 3, 0)) hx hb htl inX12 hown hK hG ht_a0 (by decide) tk_no rfl 0 (by decide) (htl _ mw_15) (fun _ h9 => h9) rfl dX12_count_101 (fun v9 hf10 hV9 => ?_)
    obtain ⟨rfl, ht_ld20⟩ := hV9
    have ht_ld20 : t (ld 20) = (3, 0, 0) := ht_ld20
    refine fx_top (v := .ref (ld 20)) rfl ?_
    refine tk_get (ci := 2) (C := RX2) (T := TX2) (N := 20) (sp := (0, 0, 8, 0)) hx hb htl inX2 hown hK hG ht_ld20 (by decide) tk_no rfl 11 (by decide) (htl _ mw_1499) (fun _ h9 => h9) rfl dX12_count_104 (fun v9 hf11 hV9 => ?_)
    obtain ⟨v12, rfl, (ha_v12 : 0 ≤ v12.toInt), (hb_v12 : v12.toInt ≤ 8)⟩ := hV9
    exact tk_iret (v := v12) hx hb hr rfl hlocks trivial hG hS dX12_count_107
  · refine lv_tableIn (off := 107) (tgt := 108) hx hb dX12_count_1 (by omega) (by omega) (by rw [hsw]; rfl) (by decide) ?_
    refine lv_aload_n hx hb dX12_count_108 rfl (lv_at hl 0 rfl) ?_
    refine tk_get (ci := 12) (C := RX12) (T := TX12) (N := 17) (sp := (8, 20, 3, 0)) hx hb htl inX12 hown hK hG ht_a0 (by decide) tk_no rfl 0 (by decide) (htl _ mw_15) (fun _ h9 => h9) rfl dX12_count_109 (fun v9 hf13 hV9 => ?_)
    obtain ⟨rfl, ht_ld20⟩ := hV9
    have ht_ld20 : t (ld 20) = (3, 0, 0) := ht_ld20
    refine fx_top (v := .ref (ld 20)) rfl ?_
    refine tk_get (ci := 2) (C := RX2) (T := TX2) (N := 20) (sp := (0, 0, 6, 0)) hx hb htl inX2 hown hK hG ht_ld20 (by decide) tk_no rfl 13 (by decide) (htl _ mw_466) (fun _ h9 => h9) rfl dX12_count_112 (fun v9 hf14 hV9 => ?_)
    obtain ⟨v15, rfl, (ha_v15 : 0 ≤ v15.toInt), (hb_v15 : v15.toInt ≤ 6)⟩ := hV9
    exact tk_iret (v := v15) hx hb hr rfl hlocks trivial hG hS dX12_count_115
  · refine lv_tableIn (off := 115) (tgt := 116) hx hb dX12_count_1 (by omega) (by omega) (by rw [hsw]; rfl) (by decide) ?_
    refine lv_aload_n hx hb dX12_count_116 rfl (lv_at hl 0 rfl) ?_
    refine tk_get (ci := 12) (C := RX12) (T := TX12) (N := 17) (sp := (6, 2, 0, 0)) hx hb htl inX12 hown hK hG ht_a0 (by decide) tk_no rfl 4 (by decide) (htl _ mw_26) (fun _ h9 => h9) rfl dX12_count_117 (fun v9 hf16 hV9 => ?_)
    obtain ⟨b17, rfl, ht_b17⟩ := hV9
    have ht_b17 : t b17 = (2, 0, 0) := ht_b17
    refine tk_get (ci := 1) (C := RX1) (T := TX1) (N := 11) (sp := (0, 0, 16, 0)) hx hb htl inX1 hown hK hG ht_b17 (by decide) tk_no rfl 0 (by decide) (htl _ mw_1732) (fun _ h9 => h9) rfl dX12_count_120 (fun v9 hf18 hV9 => ?_)
    obtain ⟨v19, rfl, (ha_v19 : 0 ≤ v19.toInt), (hb_v19 : v19.toInt ≤ 16)⟩ := hV9
    exact tk_iret (v := v19) hx hb hr rfl hlocks trivial hG hS dX12_count_123
  · refine lv_tableIn (off := 123) (tgt := 124) hx hb dX12_count_1 (by omega) (by omega) (by rw [hsw]; rfl) (by decide) ?_
    refine lv_aload_n hx hb dX12_count_124 rfl (lv_at hl 0 rfl) ?_
    refine tk_get (ci := 12) (C := RX12) (T := TX12) (N := 17) (sp := (0, 0, 400, 0)) hx hb htl inX12 hown hK hG ht_a0 (by decide) tk_no rfl 13 (by decide) (htl _ mw_422) (fun _ h9 => h9) rfl dX12_count_125 (fun v9 hf20 hV9 => ?_)
    obtain ⟨v21, rfl, (ha_v21 : 0 ≤ v21.toInt), (hb_v21 : v21.toInt ≤ 400)⟩ := hV9
    exact tk_iret (v := v21) hx hb hr rfl hlocks trivial hG hS dX12_count_128
  · refine lv_tableIn (off := 162) (tgt := 163) hx hb dX12_count_1 (by omega) (by omega) (by rw [hsw]; rfl) (by decide) ?_
    refine lv_iload_n hx hb dX12_count_163 rfl (lv_at hl 1 rfl) ?_
    refine lv_bipush (v := 7) hx hb dX12_count_164 (by decide) ?_
    refine lv_bipush (v := 11) hx hb dX12_count_166 (by decide) ?_
    have hk_7 : (7 : Int32).toInt = 7 := by decide
    have hk_11 : (11 : Int32).toInt = 11 := by decide
    refine tk_Si (As := [.int p1, .int 7, .int 11]) (rest := []) ⟨hx, hb, hml, hown, hts⟩ hK hG hZ hS (k_X12_within l D cy ld t _ p1 7 11) trivial ⟨callB_of 3 hts (wl_in mw_262) rfl rfl rfl (htl _ mw_2) (htl _ mw_277) hd_yX12_within ⟨(Nat.le_of_ble_eq_true rfl), (Nat.le_of_ble_eq_true rfl)⟩, htl _ mw_261⟩ (tk_w.pick [] rfl) rfl hl.1 rfl (Nat.le_of_ble_eq_true rfl) dX12_count_168 ⟨(Nat.le_of_ble_eq_true rfl), (Nat.le_of_ble_eq_true rfl)⟩ (fun v22 H locs hpo hG hS hq9 => ?_)
    obtain ⟨hpo24, hpo25, hpo26, hpo27, hpo28⟩ := hpo
    refine lv_if_eq (tgt := 184) hx hb dX12_count_171 (by decide) (fun c9 => ?_) (fun c9 => ?_)
    · have hc29 : v22.toInt = 0 := (fi_eq rfl (show (0 : Int32).toInt = 0 by decide)).mp c9
      refine lv_iload_n hx hb dX12_count_184 rfl (lv_at hl 1 rfl) ?_
      refine lv_bipush (v := 15) hx hb dX12_count_185 (by decide) ?_
      refine lv_bipush (v := 18) hx hb dX12_count_187 (by decide) ?_
      have hk_15 : (15 : Int32).toInt = 15 := by decide
      have hk_18 : (18 : Int32).toInt = 18 := by decide
      refine tk_Si (As := [.int p1, .int 15, .int 18]) (rest := []) ⟨hx, hb, hml, hown, hts⟩ hK hG hZ hS (k_X12_within l D cy ld t _ p1 15 18) trivial ⟨callB_of 3 hts (wl_in mw_262) rfl rfl rfl (htl _ mw_2) (htl _ mw_277) hd_yX12_within ⟨(Nat.le_of_ble_eq_true rfl), (Nat.le_of_ble_eq_true rfl)⟩, htl _ mw_261⟩ (tk_w.pick [] rfl) rfl hl.1 rfl (Nat.le_of_ble_eq_true rfl) dX12_count_189 ⟨(Nat.le_of_ble_eq_true rfl), (Nat.le_of_ble_eq_true rfl)⟩ (fun v30 H locs hpo hG hS hq9 => ?_)
      obtain ⟨hpo32, hpo33, hpo34, hpo35, hpo36⟩ := hpo
      refine lv_if_eq (tgt := 209) hx hb dX12_count_192 (by decide) (fun c9 => ?_) (fun c9 => ?_)
      · have hc37 : v30.toInt = 0 := (fi_eq rfl (show (0 : Int32).toInt = 0 by decide)).mp c9
        refine lv_iconst (v := (-1)) hx hb dX12_count_209 (by decide) ?_
        have hk_m1 : ((-1) : Int32).toInt = (-1) := by decide
        exact tk_iret (v := (-1)) hx hb hr rfl hlocks trivial hG hS dX12_count_210
      · have hc37 : ¬ (v30.toInt = 0) := fun h9 => c9 ((fi_eq rfl (show (0 : Int32).toInt = 0 by decide)).mpr h9)
        refine lv_aload_n hx hb dX12_count_195 rfl (lv_at hl 0 rfl) ?_
        refine tk_get (ci := 12) (C := RX12) (T := TX12) (N := 17) (sp := (8, 20, 3, 0)) hx hb htl inX12 hown hK hG ht_a0 (by decide) tk_no rfl 0 (by decide) (htl _ mw_15) (fun _ h9 => h9) rfl dX12_count_196 (fun v9 hf38 hV9 => ?_)
        obtain ⟨rfl, ht_ld20⟩ := hV9
        have ht_ld20 : t (ld 20) = (3, 0, 0) := ht_ld20
        refine fx_top (v := .ref (ld 20)) rfl ?_
        refine lv_iload_n hx hb dX12_count_199 rfl (lv_at hl 1 rfl) ?_
        refine lv_bipush (v := 15) hx hb dX12_count_200 (by decide) ?_
        refine lv_isub hx hb dX12_count_202 ?_
        refine tk_sub rfl (show (15 : Int32).toInt = 15 by decide) (by omega) (by omega) (fun v39 h_v39 => ?_)
        refine tk_Vi (As := [.int v39]) (rest := []) (ci := 2) ⟨hx, hb, hml, hown, hts⟩ hK hG hZ hS (k_X2_termOf l D cy ld t (ld 20) v39 ht_ld20) trivial ⟨callB_of 1 hts (wl_in mw_407) rfl rfl rfl (htl _ mw_14) (htl _ mw_404) hd_yX2_termOf ⟨(Nat.le_of_ble_eq_true rfl), (Nat.le_of_ble_eq_true rfl)⟩, htl _ mw_405, htl _ mw_406⟩ ht_ld20 (by decide) tk_no rfl (tk_w.pick [] rfl) rfl hl.1 rfl (Nat.le_of_ble_eq_true rfl) dX12_count_203 ⟨(Nat.le_of_ble_eq_true rfl), (Nat.le_of_ble_eq_true rfl)⟩ (fun v40 H locs hpo hG hS hq9 => ?_)
        refine lv_goto (tgt := 210) hx hb dX12_count_206 (by decide) ?_
        exact tk_iret (v := v40) hx hb hr rfl hlocks trivial hG hS dX12_count_210
    · have hc29 : ¬ (v22.toInt = 0) := fun h9 => c9 ((fi_eq rfl (show (0 : Int32).toInt = 0 by decide)).mpr h9)
      refine lv_aload_n hx hb dX12_count_174 rfl (lv_at hl 0 rfl) ?_
      refine tk_get (ci := 12) (C := RX12) (T := TX12) (N := 17) (sp := (6, 20, 5, 0)) hx hb htl inX12 hown hK hG ht_a0 (by decide) tk_no rfl 12 (by decide) (htl _ mw_54) (fun _ h9 => h9) rfl dX12_count_175 (fun v9 hf42 hV9 => ?_)
      obtain ⟨b43, rfl, ht_b43⟩ := hV9
      have ht_b43 : t b43 = (20, 5, 0) := ht_b43
      refine lv_iload_n hx hb dX12_count_178 rfl (lv_at hl 1 rfl) ?_
      refine lv_bipush (v := 7) hx hb dX12_count_179 (by decide) ?_
      refine lv_isub hx hb dX12_count_181 ?_
      refine tk_sub rfl (show (7 : Int32).toInt = 7 by decide) (by omega) (by omega) (fun v44 h_v44 => ?_)
      refine tk_iald hx hb hK hG ht_b43 (by decide) (fun _ h => h) tk_no rfl (by omega) (by omega) dX12_count_182 (fun v45 _ _ => ?_)
      have hr_v45 := tk_rng v45
      exact tk_iret (v := v45) hx hb hr rfl hlocks trivial hG hS dX12_count_183
  · refine lv_tableIn (off := 162) (tgt := 163) hx hb dX12_count_1 (by omega) (by omega) (by rw [hsw]; rfl) (by decide) ?_
    refine lv_iload_n hx hb dX12_count_163 rfl (lv_at hl 1 rfl) ?_
    refine lv_bipush (v := 7) hx hb dX12_count_164 (by decide) ?_
    refine lv_bipush (v := 11) hx hb dX12_count_166 (by decide) ?_
    have hk_7 : (7 : Int32).toInt = 7 := by decide
    have hk_11 : (11 : Int32).toInt = 11 := by decide
    refine tk_Si (As := [.int p1, .int 7, .int 11]) (rest := []) ⟨hx, hb, hml, hown, hts⟩ hK hG hZ hS (k_X12_within l D cy ld t _ p1 7 11) trivial ⟨callB_of 3 hts (wl_in mw_262) rfl rfl rfl (htl _ mw_2) (htl _ mw_277) hd_yX12_within ⟨(Nat.le_of_ble_eq_true rfl), (Nat.le_of_ble_eq_true rfl)⟩, htl _ mw_261⟩ (tk_w.pick [] rfl) rfl hl.1 rfl (Nat.le_of_ble_eq_true rfl) dX12_count_168 ⟨(Nat.le_of_ble_eq_true rfl), (Nat.le_of_ble_eq_true rfl)⟩ (fun v46 H locs hpo hG hS hq9 => ?_)
    obtain ⟨hpo48, hpo49, hpo50, hpo51, hpo52⟩ := hpo
    refine lv_if_eq (tgt := 184) hx hb dX12_count_171 (by decide) (fun c9 => ?_) (fun c9 => ?_)
    · have hc53 : v46.toInt = 0 := (fi_eq rfl (show (0 : Int32).toInt = 0 by decide)).mp c9
      refine lv_iload_n hx hb dX12_count_184 rfl (lv_at hl 1 rfl) ?_
      refine lv_bipush (v := 15) hx hb dX12_count_185 (by decide) ?_
      refine lv_bipush (v := 18) hx hb dX12_count_187 (by decide) ?_
      have hk_15 : (15 : Int32).toInt = 15 := by decide
      have hk_18 : (18 : Int32).toInt = 18 := by decide
      refine tk_Si (As := [.int p1, .int 15, .int 18]) (rest := []) ⟨hx, hb, hml, hown, hts⟩ hK hG hZ hS (k_X12_within l D cy ld t _ p1 15 18) trivial ⟨callB_of 3 hts (wl_in mw_262) rfl rfl rfl (htl _ mw_2) (htl _ mw_277) hd_yX12_within ⟨(Nat.le_of_ble_eq_true rfl), (Nat.le_of_ble_eq_true rfl)⟩, htl _ mw_261⟩ (tk_w.pick [] rfl) rfl hl.1 rfl (Nat.le_of_ble_eq_true rfl) dX12_count_189 ⟨(Nat.le_of_ble_eq_true rfl), (Nat.le_of_ble_eq_true rfl)⟩ (fun v54 H locs hpo hG hS hq9 => ?_)
      obtain ⟨hpo56, hpo57, hpo58, hpo59, hpo60⟩ := hpo
      refine lv_if_eq (tgt := 209) hx hb dX12_count_192 (by decide) (fun c9 => ?_) (fun c9 => ?_)
      · have hc61 : v54.toInt = 0 := (fi_eq rfl (show (0 : Int32).toInt = 0 by decide)).mp c9
        refine lv_iconst (v := (-1)) hx hb dX12_count_209 (by decide) ?_
        have hk_m1 : ((-1) : Int32).toInt = (-1) := by decide
        exact tk_iret (v := (-1)) hx hb hr rfl hlocks trivial hG hS dX12_count_210
      · have hc61 : ¬ (v54.toInt = 0) := fun h9 => c9 ((fi_eq rfl (show (0 : Int32).toInt = 0 by decide)).mpr h9)
        refine lv_aload_n hx hb dX12_count_195 rfl (lv_at hl 0 rfl) ?_
        refine tk_get (ci := 12) (C := RX12) (T := TX12) (N := 17) (sp := (8, 20, 3, 0)) hx hb htl inX12 hown hK hG ht_a0 (by decide) tk_no rfl 0 (by decide) (htl _ mw_15) (fun _ h9 => h9) rfl dX12_count_196 (fun v9 hf62 hV9 => ?_)
        obtain ⟨rfl, ht_ld20⟩ := hV9
        have ht_ld20 : t (ld 20) = (3, 0, 0) := ht_ld20
        refine fx_top (v := .ref (ld 20)) rfl ?_
        refine lv_iload_n hx hb dX12_count_199 rfl (lv_at hl 1 rfl) ?_
        refine lv_bipush (v := 15) hx hb dX12_count_200 (by decide) ?_
        refine lv_isub hx hb dX12_count_202 ?_
        refine tk_sub rfl (show (15 : Int32).toInt = 15 by decide) (by omega) (by omega) (fun v63 h_v63 => ?_)
        refine tk_Vi (As := [.int v63]) (rest := []) (ci := 2) ⟨hx, hb, hml, hown, hts⟩ hK hG hZ hS (k_X2_termOf l D cy ld t (ld 20) v63 ht_ld20) trivial ⟨callB_of 1 hts (wl_in mw_407) rfl rfl rfl (htl _ mw_14) (htl _ mw_404) hd_yX2_termOf ⟨(Nat.le_of_ble_eq_true rfl), (Nat.le_of_ble_eq_true rfl)⟩, htl _ mw_405, htl _ mw_406⟩ ht_ld20 (by decide) tk_no rfl (tk_w.pick [] rfl) rfl hl.1 rfl (Nat.le_of_ble_eq_true rfl) dX12_count_203 ⟨(Nat.le_of_ble_eq_true rfl), (Nat.le_of_ble_eq_true rfl)⟩ (fun v64 H locs hpo hG hS hq9 => ?_)
        refine lv_goto (tgt := 210) hx hb dX12_count_206 (by decide) ?_
        exact tk_iret (v := v64) hx hb hr rfl hlocks trivial hG hS dX12_count_210
    · have hc53 : ¬ (v46.toInt = 0) := fun h9 => c9 ((fi_eq rfl (show (0 : Int32).toInt = 0 by decide)).mpr h9)
      refine lv_aload_n hx hb dX12_count_174 rfl (lv_at hl 0 rfl) ?_
      refine tk_get (ci := 12) (C := RX12) (T := TX12) (N := 17) (sp := (6, 20, 5, 0)) hx hb htl inX12 hown hK hG ht_a0 (by decide) tk_no rfl 12 (by decide) (htl _ mw_54) (fun _ h9 => h9) rfl dX12_count_175 (fun v9 hf66 hV9 => ?_)
      obtain ⟨b67, rfl, ht_b67⟩ := hV9
      have ht_b67 : t b67 = (20, 5, 0) := ht_b67
      refine lv_iload_n hx hb dX12_count_178 rfl (lv_at hl 1 rfl) ?_
      refine lv_bipush (v := 7) hx hb dX12_count_179 (by decide) ?_
      refine lv_isub hx hb dX12_count_181 ?_
      refine tk_sub rfl (show (7 : Int32).toInt = 7 by decide) (by omega) (by omega) (fun v68 h_v68 => ?_)
      refine tk_iald hx hb hK hG ht_b67 (by decide) (fun _ h => h) tk_no rfl (by omega) (by omega) dX12_count_182 (fun v69 _ _ => ?_)
      have hr_v69 := tk_rng v69
      exact tk_iret (v := v69) hx hb hr rfl hlocks trivial hG hS dX12_count_183
  · refine lv_tableIn (off := 162) (tgt := 163) hx hb dX12_count_1 (by omega) (by omega) (by rw [hsw]; rfl) (by decide) ?_
    refine lv_iload_n hx hb dX12_count_163 rfl (lv_at hl 1 rfl) ?_
    refine lv_bipush (v := 7) hx hb dX12_count_164 (by decide) ?_
    refine lv_bipush (v := 11) hx hb dX12_count_166 (by decide) ?_
    have hk_7 : (7 : Int32).toInt = 7 := by decide
    have hk_11 : (11 : Int32).toInt = 11 := by decide
    refine tk_Si (As := [.int p1, .int 7, .int 11]) (rest := []) ⟨hx, hb, hml, hown, hts⟩ hK hG hZ hS (k_X12_within l D cy ld t _ p1 7 11) trivial ⟨callB_of 3 hts (wl_in mw_262) rfl rfl rfl (htl _ mw_2) (htl _ mw_277) hd_yX12_within ⟨(Nat.le_of_ble_eq_true rfl), (Nat.le_of_ble_eq_true rfl)⟩, htl _ mw_261⟩ (tk_w.pick [] rfl) rfl hl.1 rfl (Nat.le_of_ble_eq_true rfl) dX12_count_168 ⟨(Nat.le_of_ble_eq_true rfl), (Nat.le_of_ble_eq_true rfl)⟩ (fun v70 H locs hpo hG hS hq9 => ?_)
    obtain ⟨hpo72, hpo73, hpo74, hpo75, hpo76⟩ := hpo
    refine lv_if_eq (tgt := 184) hx hb dX12_count_171 (by decide) (fun c9 => ?_) (fun c9 => ?_)
    · have hc77 : v70.toInt = 0 := (fi_eq rfl (show (0 : Int32).toInt = 0 by decide)).mp c9
      refine lv_iload_n hx hb dX12_count_184 rfl (lv_at hl 1 rfl) ?_
      refine lv_bipush (v := 15) hx hb dX12_count_185 (by decide) ?_
      refine lv_bipush (v := 18) hx hb dX12_count_187 (by decide) ?_
      have hk_15 : (15 : Int32).toInt = 15 := by decide
      have hk_18 : (18 : Int32).toInt = 18 := by decide
      refine tk_Si (As := [.int p1, .int 15, .int 18]) (rest := []) ⟨hx, hb, hml, hown, hts⟩ hK hG hZ hS (k_X12_within l D cy ld t _ p1 15 18) trivial ⟨callB_of 3 hts (wl_in mw_262) rfl rfl rfl (htl _ mw_2) (htl _ mw_277) hd_yX12_within ⟨(Nat.le_of_ble_eq_true rfl), (Nat.le_of_ble_eq_true rfl)⟩, htl _ mw_261⟩ (tk_w.pick [] rfl) rfl hl.1 rfl (Nat.le_of_ble_eq_true rfl) dX12_count_189 ⟨(Nat.le_of_ble_eq_true rfl), (Nat.le_of_ble_eq_true rfl)⟩ (fun v78 H locs hpo hG hS hq9 => ?_)
      obtain ⟨hpo80, hpo81, hpo82, hpo83, hpo84⟩ := hpo
      refine lv_if_eq (tgt := 209) hx hb dX12_count_192 (by decide) (fun c9 => ?_) (fun c9 => ?_)
      · have hc85 : v78.toInt = 0 := (fi_eq rfl (show (0 : Int32).toInt = 0 by decide)).mp c9
        refine lv_iconst (v := (-1)) hx hb dX12_count_209 (by decide) ?_
        have hk_m1 : ((-1) : Int32).toInt = (-1) := by decide
        exact tk_iret (v := (-1)) hx hb hr rfl hlocks trivial hG hS dX12_count_210
      · have hc85 : ¬ (v78.toInt = 0) := fun h9 => c9 ((fi_eq rfl (show (0 : Int32).toInt = 0 by decide)).mpr h9)
        refine lv_aload_n hx hb dX12_count_195 rfl (lv_at hl 0 rfl) ?_
        refine tk_get (ci := 12) (C := RX12) (T := TX12) (N := 17) (sp := (8, 20, 3, 0)) hx hb htl inX12 hown hK hG ht_a0 (by decide) tk_no rfl 0 (by decide) (htl _ mw_15) (fun _ h9 => h9) rfl dX12_count_196 (fun v9 hf86 hV9 => ?_)
        obtain ⟨rfl, ht_ld20⟩ := hV9
        have ht_ld20 : t (ld 20) = (3, 0, 0) := ht_ld20
        refine fx_top (v := .ref (ld 20)) rfl ?_
        refine lv_iload_n hx hb dX12_count_199 rfl (lv_at hl 1 rfl) ?_
        refine lv_bipush (v := 15) hx hb dX12_count_200 (by decide) ?_
        refine lv_isub hx hb dX12_count_202 ?_
        refine tk_sub rfl (show (15 : Int32).toInt = 15 by decide) (by omega) (by omega) (fun v87 h_v87 => ?_)
        refine tk_Vi (As := [.int v87]) (rest := []) (ci := 2) ⟨hx, hb, hml, hown, hts⟩ hK hG hZ hS (k_X2_termOf l D cy ld t (ld 20) v87 ht_ld20) trivial ⟨callB_of 1 hts (wl_in mw_407) rfl rfl rfl (htl _ mw_14) (htl _ mw_404) hd_yX2_termOf ⟨(Nat.le_of_ble_eq_true rfl), (Nat.le_of_ble_eq_true rfl)⟩, htl _ mw_405, htl _ mw_406⟩ ht_ld20 (by decide) tk_no rfl (tk_w.pick [] rfl) rfl hl.1 rfl (Nat.le_of_ble_eq_true rfl) dX12_count_203 ⟨(Nat.le_of_ble_eq_true rfl), (Nat.le_of_ble_eq_true rfl)⟩ (fun v88 H locs hpo hG hS hq9 => ?_)
        refine lv_goto (tgt := 210) hx hb dX12_count_206 (by decide) ?_
        exact tk_iret (v := v88) hx hb hr rfl hlocks trivial hG hS dX12_count_210
    · have hc77 : ¬ (v70.toInt = 0) := fun h9 => c9 ((fi_eq rfl (show (0 : Int32).toInt = 0 by decide)).mpr h9)
      refine lv_aload_n hx hb dX12_count_174 rfl (lv_at hl 0 rfl) ?_
      refine tk_get (ci := 12) (C := RX12) (T := TX12) (N := 17) (sp := (6, 20, 5, 0)) hx hb htl inX12 hown hK hG ht_a0 (by decide) tk_no rfl 12 (by decide) (htl _ mw_54) (fun _ h9 => h9) rfl dX12_count_175 (fun v9 hf90 hV9 => ?_)
      obtain ⟨b91, rfl, ht_b91⟩ := hV9
      have ht_b91 : t b91 = (20, 5, 0) := ht_b91
      refine lv_iload_n hx hb dX12_count_178 rfl (lv_at hl 1 rfl) ?_
      refine lv_bipush (v := 7) hx hb dX12_count_179 (by decide) ?_
      refine lv_isub hx hb dX12_count_181 ?_
      refine tk_sub rfl (show (7 : Int32).toInt = 7 by decide) (by omega) (by omega) (fun v92 h_v92 => ?_)
      refine tk_iald hx hb hK hG ht_b91 (by decide) (fun _ h => h) tk_no rfl (by omega) (by omega) dX12_count_182 (fun v93 _ _ => ?_)
      have hr_v93 := tk_rng v93
      exact tk_iret (v := v93) hx hb hr rfl hlocks trivial hG hS dX12_count_183
  · refine lv_tableIn (off := 162) (tgt := 163) hx hb dX12_count_1 (by omega) (by omega) (by rw [hsw]; rfl) (by decide) ?_
    refine lv_iload_n hx hb dX12_count_163 rfl (lv_at hl 1 rfl) ?_
    refine lv_bipush (v := 7) hx hb dX12_count_164 (by decide) ?_
    refine lv_bipush (v := 11) hx hb dX12_count_166 (by decide) ?_
    have hk_7 : (7 : Int32).toInt = 7 := by decide
    have hk_11 : (11 : Int32).toInt = 11 := by decide
    refine tk_Si (As := [.int p1, .int 7, .int 11]) (rest := []) ⟨hx, hb, hml, hown, hts⟩ hK hG hZ hS (k_X12_within l D cy ld t _ p1 7 11) trivial ⟨callB_of 3 hts (wl_in mw_262) rfl rfl rfl (htl _ mw_2) (htl _ mw_277) hd_yX12_within ⟨(Nat.le_of_ble_eq_true rfl), (Nat.le_of_ble_eq_true rfl)⟩, htl _ mw_261⟩ (tk_w.pick [] rfl) rfl hl.1 rfl (Nat.le_of_ble_eq_true rfl) dX12_count_168 ⟨(Nat.le_of_ble_eq_true rfl), (Nat.le_of_ble_eq_true rfl)⟩ (fun v94 H locs hpo hG hS hq9 => ?_)
    obtain ⟨hpo96, hpo97, hpo98, hpo99, hpo100⟩ := hpo
    refine lv_if_eq (tgt := 184) hx hb dX12_count_171 (by decide) (fun c9 => ?_) (fun c9 => ?_)
    · have hc101 : v94.toInt = 0 := (fi_eq rfl (show (0 : Int32).toInt = 0 by decide)).mp c9
      refine lv_iload_n hx hb dX12_count_184 rfl (lv_at hl 1 rfl) ?_
      refine lv_bipush (v := 15) hx hb dX12_count_185 (by decide) ?_
      refine lv_bipush (v := 18) hx hb dX12_count_187 (by decide) ?_
      have hk_15 : (15 : Int32).toInt = 15 := by decide
      have hk_18 : (18 : Int32).toInt = 18 := by decide
      refine tk_Si (As := [.int p1, .int 15, .int 18]) (rest := []) ⟨hx, hb, hml, hown, hts⟩ hK hG hZ hS (k_X12_within l D cy ld t _ p1 15 18) trivial ⟨callB_of 3 hts (wl_in mw_262) rfl rfl rfl (htl _ mw_2) (htl _ mw_277) hd_yX12_within ⟨(Nat.le_of_ble_eq_true rfl), (Nat.le_of_ble_eq_true rfl)⟩, htl _ mw_261⟩ (tk_w.pick [] rfl) rfl hl.1 rfl (Nat.le_of_ble_eq_true rfl) dX12_count_189 ⟨(Nat.le_of_ble_eq_true rfl), (Nat.le_of_ble_eq_true rfl)⟩ (fun v102 H locs hpo hG hS hq9 => ?_)
      obtain ⟨hpo104, hpo105, hpo106, hpo107, hpo108⟩ := hpo
      refine lv_if_eq (tgt := 209) hx hb dX12_count_192 (by decide) (fun c9 => ?_) (fun c9 => ?_)
      · have hc109 : v102.toInt = 0 := (fi_eq rfl (show (0 : Int32).toInt = 0 by decide)).mp c9
        refine lv_iconst (v := (-1)) hx hb dX12_count_209 (by decide) ?_
        have hk_m1 : ((-1) : Int32).toInt = (-1) := by decide
        exact tk_iret (v := (-1)) hx hb hr rfl hlocks trivial hG hS dX12_count_210
      · have hc109 : ¬ (v102.toInt = 0) := fun h9 => c9 ((fi_eq rfl (show (0 : Int32).toInt = 0 by decide)).mpr h9)
        refine lv_aload_n hx hb dX12_count_195 rfl (lv_at hl 0 rfl) ?_
        refine tk_get (ci := 12) (C := RX12) (T := TX12) (N := 17) (sp := (8, 20, 3, 0)) hx hb htl inX12 hown hK hG ht_a0 (by decide) tk_no rfl 0 (by decide) (htl _ mw_15) (fun _ h9 => h9) rfl dX12_count_196 (fun v9 hf110 hV9 => ?_)
        obtain ⟨rfl, ht_ld20⟩ := hV9
        have ht_ld20 : t (ld 20) = (3, 0, 0) := ht_ld20
        refine fx_top (v := .ref (ld 20)) rfl ?_
        refine lv_iload_n hx hb dX12_count_199 rfl (lv_at hl 1 rfl) ?_
        refine lv_bipush (v := 15) hx hb dX12_count_200 (by decide) ?_
        refine lv_isub hx hb dX12_count_202 ?_
        refine tk_sub rfl (show (15 : Int32).toInt = 15 by decide) (by omega) (by omega) (fun v111 h_v111 => ?_)
        refine tk_Vi (As := [.int v111]) (rest := []) (ci := 2) ⟨hx, hb, hml, hown, hts⟩ hK hG hZ hS (k_X2_termOf l D cy ld t (ld 20) v111 ht_ld20) trivial ⟨callB_of 1 hts (wl_in mw_407) rfl rfl rfl (htl _ mw_14) (htl _ mw_404) hd_yX2_termOf ⟨(Nat.le_of_ble_eq_true rfl), (Nat.le_of_ble_eq_true rfl)⟩, htl _ mw_405, htl _ mw_406⟩ ht_ld20 (by decide) tk_no rfl (tk_w.pick [] rfl) rfl hl.1 rfl (Nat.le_of_ble_eq_true rfl) dX12_count_203 ⟨(Nat.le_of_ble_eq_true rfl), (Nat.le_of_ble_eq_true rfl)⟩ (fun v112 H locs hpo hG hS hq9 => ?_)
        refine lv_goto (tgt := 210) hx hb dX12_count_206 (by decide) ?_
        exact tk_iret (v := v112) hx hb hr rfl hlocks trivial hG hS dX12_count_210
    · have hc101 : ¬ (v94.toInt = 0) := fun h9 => c9 ((fi_eq rfl (show (0 : Int32).toInt = 0 by decide)).mpr h9)
      refine lv_aload_n hx hb dX12_count_174 rfl (lv_at hl 0 rfl) ?_
      refine tk_get (ci := 12) (C := RX12) (T := TX12) (N := 17) (sp := (6, 20, 5, 0)) hx hb htl inX12 hown hK hG ht_a0 (by decide) tk_no rfl 12 (by decide) (htl _ mw_54) (fun _ h9 => h9) rfl dX12_count_175 (fun v9 hf114 hV9 => ?_)
      obtain ⟨b115, rfl, ht_b115⟩ := hV9
      have ht_b115 : t b115 = (20, 5, 0) := ht_b115
      refine lv_iload_n hx hb dX12_count_178 rfl (lv_at hl 1 rfl) ?_
      refine lv_bipush (v := 7) hx hb dX12_count_179 (by decide) ?_
      refine lv_isub hx hb dX12_count_181 ?_
      refine tk_sub rfl (show (7 : Int32).toInt = 7 by decide) (by omega) (by omega) (fun v116 h_v116 => ?_)
      refine tk_iald hx hb hK hG ht_b115 (by decide) (fun _ h => h) tk_no rfl (by omega) (by omega) dX12_count_182 (fun v117 _ _ => ?_)
      have hr_v117 := tk_rng v117
      exact tk_iret (v := v117) hx hb hr rfl hlocks trivial hG hS dX12_count_183
  · refine lv_tableIn (off := 162) (tgt := 163) hx hb dX12_count_1 (by omega) (by omega) (by rw [hsw]; rfl) (by decide) ?_
    refine lv_iload_n hx hb dX12_count_163 rfl (lv_at hl 1 rfl) ?_
    refine lv_bipush (v := 7) hx hb dX12_count_164 (by decide) ?_
    refine lv_bipush (v := 11) hx hb dX12_count_166 (by decide) ?_
    have hk_7 : (7 : Int32).toInt = 7 := by decide
    have hk_11 : (11 : Int32).toInt = 11 := by decide
    refine tk_Si (As := [.int p1, .int 7, .int 11]) (rest := []) ⟨hx, hb, hml, hown, hts⟩ hK hG hZ hS (k_X12_within l D cy ld t _ p1 7 11) trivial ⟨callB_of 3 hts (wl_in mw_262) rfl rfl rfl (htl _ mw_2) (htl _ mw_277) hd_yX12_within ⟨(Nat.le_of_ble_eq_true rfl), (Nat.le_of_ble_eq_true rfl)⟩, htl _ mw_261⟩ (tk_w.pick [] rfl) rfl hl.1 rfl (Nat.le_of_ble_eq_true rfl) dX12_count_168 ⟨(Nat.le_of_ble_eq_true rfl), (Nat.le_of_ble_eq_true rfl)⟩ (fun v118 H locs hpo hG hS hq9 => ?_)
    obtain ⟨hpo120, hpo121, hpo122, hpo123, hpo124⟩ := hpo
    refine lv_if_eq (tgt := 184) hx hb dX12_count_171 (by decide) (fun c9 => ?_) (fun c9 => ?_)
    · have hc125 : v118.toInt = 0 := (fi_eq rfl (show (0 : Int32).toInt = 0 by decide)).mp c9
      refine lv_iload_n hx hb dX12_count_184 rfl (lv_at hl 1 rfl) ?_
      refine lv_bipush (v := 15) hx hb dX12_count_185 (by decide) ?_
      refine lv_bipush (v := 18) hx hb dX12_count_187 (by decide) ?_
      have hk_15 : (15 : Int32).toInt = 15 := by decide
      have hk_18 : (18 : Int32).toInt = 18 := by decide
      refine tk_Si (As := [.int p1, .int 15, .int 18]) (rest := []) ⟨hx, hb, hml, hown, hts⟩ hK hG hZ hS (k_X12_within l D cy ld t _ p1 15 18) trivial ⟨callB_of 3 hts (wl_in mw_262) rfl rfl rfl (htl _ mw_2) (htl _ mw_277) hd_yX12_within ⟨(Nat.le_of_ble_eq_true rfl), (Nat.le_of_ble_eq_true rfl)⟩, htl _ mw_261⟩ (tk_w.pick [] rfl) rfl hl.1 rfl (Nat.le_of_ble_eq_true rfl) dX12_count_189 ⟨(Nat.le_of_ble_eq_true rfl), (Nat.le_of_ble_eq_true rfl)⟩ (fun v126 H locs hpo hG hS hq9 => ?_)
      obtain ⟨hpo128, hpo129, hpo130, hpo131, hpo132⟩ := hpo
      refine lv_if_eq (tgt := 209) hx hb dX12_count_192 (by decide) (fun c9 => ?_) (fun c9 => ?_)
      · have hc133 : v126.toInt = 0 := (fi_eq rfl (show (0 : Int32).toInt = 0 by decide)).mp c9
        refine lv_iconst (v := (-1)) hx hb dX12_count_209 (by decide) ?_
        have hk_m1 : ((-1) : Int32).toInt = (-1) := by decide
        exact tk_iret (v := (-1)) hx hb hr rfl hlocks trivial hG hS dX12_count_210
      · have hc133 : ¬ (v126.toInt = 0) := fun h9 => c9 ((fi_eq rfl (show (0 : Int32).toInt = 0 by decide)).mpr h9)
        refine lv_aload_n hx hb dX12_count_195 rfl (lv_at hl 0 rfl) ?_
        refine tk_get (ci := 12) (C := RX12) (T := TX12) (N := 17) (sp := (8, 20, 3, 0)) hx hb htl inX12 hown hK hG ht_a0 (by decide) tk_no rfl 0 (by decide) (htl _ mw_15) (fun _ h9 => h9) rfl dX12_count_196 (fun v9 hf134 hV9 => ?_)
        obtain ⟨rfl, ht_ld20⟩ := hV9
        have ht_ld20 : t (ld 20) = (3, 0, 0) := ht_ld20
        refine fx_top (v := .ref (ld 20)) rfl ?_
        refine lv_iload_n hx hb dX12_count_199 rfl (lv_at hl 1 rfl) ?_
        refine lv_bipush (v := 15) hx hb dX12_count_200 (by decide) ?_
        refine lv_isub hx hb dX12_count_202 ?_
        refine tk_sub rfl (show (15 : Int32).toInt = 15 by decide) (by omega) (by omega) (fun v135 h_v135 => ?_)
        refine tk_Vi (As := [.int v135]) (rest := []) (ci := 2) ⟨hx, hb, hml, hown, hts⟩ hK hG hZ hS (k_X2_termOf l D cy ld t (ld 20) v135 ht_ld20) trivial ⟨callB_of 1 hts (wl_in mw_407) rfl rfl rfl (htl _ mw_14) (htl _ mw_404) hd_yX2_termOf ⟨(Nat.le_of_ble_eq_true rfl), (Nat.le_of_ble_eq_true rfl)⟩, htl _ mw_405, htl _ mw_406⟩ ht_ld20 (by decide) tk_no rfl (tk_w.pick [] rfl) rfl hl.1 rfl (Nat.le_of_ble_eq_true rfl) dX12_count_203 ⟨(Nat.le_of_ble_eq_true rfl), (Nat.le_of_ble_eq_true rfl)⟩ (fun v136 H locs hpo hG hS hq9 => ?_)
        refine lv_goto (tgt := 210) hx hb dX12_count_206 (by decide) ?_
        exact tk_iret (v := v136) hx hb hr rfl hlocks trivial hG hS dX12_count_210
    · have hc125 : ¬ (v118.toInt = 0) := fun h9 => c9 ((fi_eq rfl (show (0 : Int32).toInt = 0 by decide)).mpr h9)
      refine lv_aload_n hx hb dX12_count_174 rfl (lv_at hl 0 rfl) ?_
      refine tk_get (ci := 12) (C := RX12) (T := TX12) (N := 17) (sp := (6, 20, 5, 0)) hx hb htl inX12 hown hK hG ht_a0 (by decide) tk_no rfl 12 (by decide) (htl _ mw_54) (fun _ h9 => h9) rfl dX12_count_175 (fun v9 hf138 hV9 => ?_)
      obtain ⟨b139, rfl, ht_b139⟩ := hV9
      have ht_b139 : t b139 = (20, 5, 0) := ht_b139
      refine lv_iload_n hx hb dX12_count_178 rfl (lv_at hl 1 rfl) ?_
      refine lv_bipush (v := 7) hx hb dX12_count_179 (by decide) ?_
      refine lv_isub hx hb dX12_count_181 ?_
      refine tk_sub rfl (show (7 : Int32).toInt = 7 by decide) (by omega) (by omega) (fun v140 h_v140 => ?_)
      refine tk_iald hx hb hK hG ht_b139 (by decide) (fun _ h => h) tk_no rfl (by omega) (by omega) dX12_count_182 (fun v141 _ _ => ?_)
      have hr_v141 := tk_rng v141
      exact tk_iret (v := v141) hx hb hr rfl hlocks trivial hG hS dX12_count_183
  · refine lv_tableIn (off := 128) (tgt := 129) hx hb dX12_count_1 (by omega) (by omega) (by rw [hsw]; rfl) (by decide) ?_
    refine lv_aload_n hx hb dX12_count_129 rfl (lv_at hl 0 rfl) ?_
    refine tk_get (ci := 12) (C := RX12) (T := TX12) (N := 17) (sp := (8, 20, 3, 0)) hx hb htl inX12 hown hK hG ht_a0 (by decide) tk_no rfl 0 (by decide) (htl _ mw_15) (fun _ h9 => h9) rfl dX12_count_130 (fun v9 hf142 hV9 => ?_)
    obtain ⟨rfl, ht_ld20⟩ := hV9
    have ht_ld20 : t (ld 20) = (3, 0, 0) := ht_ld20
    refine fx_top (v := .ref (ld 20)) rfl ?_
    refine tk_get (ci := 2) (C := RX2) (T := TX2) (N := 20) (sp := (0, (-2147483648), 2147483647, 0)) hx hb htl inX2 hown hK hG ht_ld20 (by decide) tk_no rfl 15 (by decide) (htl _ mw_1183) (fun _ h9 => h9) rfl dX12_count_133 (fun v9 hf143 hV9 => ?_)
    obtain ⟨v144, rfl, (ha_v144 : (-2147483648) ≤ v144.toInt), (hb_v144 : v144.toInt ≤ 2147483647)⟩ := hV9
    exact tk_iret (v := v144) hx hb hr rfl hlocks trivial hG hS dX12_count_136
  · refine lv_tableIn (off := 136) (tgt := 137) hx hb dX12_count_1 (by omega) (by omega) (by rw [hsw]; rfl) (by decide) ?_
    refine lv_aload_n hx hb dX12_count_137 rfl (lv_at hl 0 rfl) ?_
    refine tk_get (ci := 12) (C := RX12) (T := TX12) (N := 17) (sp := (8, 20, 3, 0)) hx hb htl inX12 hown hK hG ht_a0 (by decide) tk_no rfl 0 (by decide) (htl _ mw_15) (fun _ h9 => h9) rfl dX12_count_138 (fun v9 hf145 hV9 => ?_)
    obtain ⟨rfl, ht_ld20⟩ := hV9
    have ht_ld20 : t (ld 20) = (3, 0, 0) := ht_ld20
    refine fx_top (v := .ref (ld 20)) rfl ?_
    refine tk_get (ci := 2) (C := RX2) (T := TX2) (N := 20) (sp := (9, 40, 10, 0)) hx hb htl inX2 hown hK hG ht_ld20 (by decide) tk_no rfl 19 (by decide) (htl _ mw_302) (fun _ h9 => h9) rfl dX12_count_141 (fun v9 hf146 hV9 => ?_)
    obtain ⟨rfl, ht_ld40⟩ := hV9
    have ht_ld40 : t (ld 40) = (10, 0, 0) := ht_ld40
    refine fx_top (v := .ref (ld 40)) rfl ?_
    refine tk_get (ci := 9) (C := RX9) (T := TX9) (N := 11) (sp := (1, 20, 2, 0)) hx hb htl inX9 hown hK hG ht_ld40 (by decide) tk_no rfl 3 (by decide) (htl _ mw_390) (fun _ h9 => h9) rfl dX12_count_144 (fun v9 hf147 hV9 => ?_)
    obtain ⟨b148, rfl, ht_b148⟩ := hV9
    have ht_b148 : t b148 = (20, 2, 0) := ht_b148
    refine lv_iconst (v := 0) hx hb dX12_count_147 (by decide) ?_
    refine tk_iald hx hb hK hG ht_b148 (by decide) (fun _ h => h) tk_no (I := 0) (by decide) (by decide) (by decide) dX12_count_148 (fun v149 _ _ => ?_)
    have hr_v149 := tk_rng v149
    exact tk_iret (v := v149) hx hb hr rfl hlocks trivial hG hS dX12_count_149
  · refine lv_tableIn (off := 149) (tgt := 150) hx hb dX12_count_1 (by omega) (by omega) (by rw [hsw]; rfl) (by decide) ?_
    refine lv_aload_n hx hb dX12_count_150 rfl (lv_at hl 0 rfl) ?_
    refine tk_get (ci := 12) (C := RX12) (T := TX12) (N := 17) (sp := (8, 20, 3, 0)) hx hb htl inX12 hown hK hG ht_a0 (by decide) tk_no rfl 0 (by decide) (htl _ mw_15) (fun _ h9 => h9) rfl dX12_count_151 (fun v9 hf150 hV9 => ?_)
    obtain ⟨rfl, ht_ld20⟩ := hV9
    have ht_ld20 : t (ld 20) = (3, 0, 0) := ht_ld20
    refine fx_top (v := .ref (ld 20)) rfl ?_
    refine tk_get (ci := 2) (C := RX2) (T := TX2) (N := 20) (sp := (9, 40, 10, 0)) hx hb htl inX2 hown hK hG ht_ld20 (by decide) tk_no rfl 19 (by decide) (htl _ mw_302) (fun _ h9 => h9) rfl dX12_count_154 (fun v9 hf151 hV9 => ?_)
    obtain ⟨rfl, ht_ld40⟩ := hV9
    have ht_ld40 : t (ld 40) = (10, 0, 0) := ht_ld40
    refine fx_top (v := .ref (ld 40)) rfl ?_
    refine tk_get (ci := 9) (C := RX9) (T := TX9) (N := 11) (sp := (1, 20, 2, 0)) hx hb htl inX9 hown hK hG ht_ld40 (by decide) tk_no rfl 3 (by decide) (htl _ mw_390) (fun _ h9 => h9) rfl dX12_count_157 (fun v9 hf152 hV9 => ?_)
    obtain ⟨b153, rfl, ht_b153⟩ := hV9
    have ht_b153 : t b153 = (20, 2, 0) := ht_b153
    refine lv_iconst (v := 1) hx hb dX12_count_160 (by decide) ?_
    refine tk_iald hx hb hK hG ht_b153 (by decide) (fun _ h => h) tk_no (I := 1) (by decide) (by decide) (by decide) dX12_count_161 (fun v154 _ _ => ?_)
    have hr_v154 := tk_rng v154
    exact tk_iret (v := v154) hx hb hr rfl hlocks trivial hG hS dX12_count_162
  · refine lv_tableOut (tgt := 163) hx hb dX12_count_1 (by omega) (by decide) ?_
    refine lv_iload_n hx hb dX12_count_163 rfl (lv_at hl 1 rfl) ?_
    refine lv_bipush (v := 7) hx hb dX12_count_164 (by decide) ?_
    refine lv_bipush (v := 11) hx hb dX12_count_166 (by decide) ?_
    have hk_7 : (7 : Int32).toInt = 7 := by decide
    have hk_11 : (11 : Int32).toInt = 11 := by decide
    refine tk_Si (As := [.int p1, .int 7, .int 11]) (rest := []) ⟨hx, hb, hml, hown, hts⟩ hK hG hZ hS (k_X12_within l D cy ld t _ p1 7 11) trivial ⟨callB_of 3 hts (wl_in mw_262) rfl rfl rfl (htl _ mw_2) (htl _ mw_277) hd_yX12_within ⟨(Nat.le_of_ble_eq_true rfl), (Nat.le_of_ble_eq_true rfl)⟩, htl _ mw_261⟩ (tk_w.pick [] rfl) rfl hl.1 rfl (Nat.le_of_ble_eq_true rfl) dX12_count_168 ⟨(Nat.le_of_ble_eq_true rfl), (Nat.le_of_ble_eq_true rfl)⟩ (fun v155 H locs hpo hG hS hq9 => ?_)
    obtain ⟨hpo157, hpo158, hpo159, hpo160, hpo161⟩ := hpo
    refine lv_if_eq (tgt := 184) hx hb dX12_count_171 (by decide) (fun c9 => ?_) (fun c9 => ?_)
    · have hc162 : v155.toInt = 0 := (fi_eq rfl (show (0 : Int32).toInt = 0 by decide)).mp c9
      refine lv_iload_n hx hb dX12_count_184 rfl (lv_at hl 1 rfl) ?_
      refine lv_bipush (v := 15) hx hb dX12_count_185 (by decide) ?_
      refine lv_bipush (v := 18) hx hb dX12_count_187 (by decide) ?_
      have hk_15 : (15 : Int32).toInt = 15 := by decide
      have hk_18 : (18 : Int32).toInt = 18 := by decide
      refine tk_Si (As := [.int p1, .int 15, .int 18]) (rest := []) ⟨hx, hb, hml, hown, hts⟩ hK hG hZ hS (k_X12_within l D cy ld t _ p1 15 18) trivial ⟨callB_of 3 hts (wl_in mw_262) rfl rfl rfl (htl _ mw_2) (htl _ mw_277) hd_yX12_within ⟨(Nat.le_of_ble_eq_true rfl), (Nat.le_of_ble_eq_true rfl)⟩, htl _ mw_261⟩ (tk_w.pick [] rfl) rfl hl.1 rfl (Nat.le_of_ble_eq_true rfl) dX12_count_189 ⟨(Nat.le_of_ble_eq_true rfl), (Nat.le_of_ble_eq_true rfl)⟩ (fun v163 H locs hpo hG hS hq9 => ?_)
      obtain ⟨hpo165, hpo166, hpo167, hpo168, hpo169⟩ := hpo
      refine lv_if_eq (tgt := 209) hx hb dX12_count_192 (by decide) (fun c9 => ?_) (fun c9 => ?_)
      · have hc170 : v163.toInt = 0 := (fi_eq rfl (show (0 : Int32).toInt = 0 by decide)).mp c9
        refine lv_iconst (v := (-1)) hx hb dX12_count_209 (by decide) ?_
        have hk_m1 : ((-1) : Int32).toInt = (-1) := by decide
        exact tk_iret (v := (-1)) hx hb hr rfl hlocks trivial hG hS dX12_count_210
      · have hc170 : ¬ (v163.toInt = 0) := fun h9 => c9 ((fi_eq rfl (show (0 : Int32).toInt = 0 by decide)).mpr h9)
        refine lv_aload_n hx hb dX12_count_195 rfl (lv_at hl 0 rfl) ?_
        refine tk_get (ci := 12) (C := RX12) (T := TX12) (N := 17) (sp := (8, 20, 3, 0)) hx hb htl inX12 hown hK hG ht_a0 (by decide) tk_no rfl 0 (by decide) (htl _ mw_15) (fun _ h9 => h9) rfl dX12_count_196 (fun v9 hf171 hV9 => ?_)
        obtain ⟨rfl, ht_ld20⟩ := hV9
        have ht_ld20 : t (ld 20) = (3, 0, 0) := ht_ld20
        refine fx_top (v := .ref (ld 20)) rfl ?_
        refine lv_iload_n hx hb dX12_count_199 rfl (lv_at hl 1 rfl) ?_
        refine lv_bipush (v := 15) hx hb dX12_count_200 (by decide) ?_
        refine lv_isub hx hb dX12_count_202 ?_
        refine tk_sub rfl (show (15 : Int32).toInt = 15 by decide) (by omega) (by omega) (fun v172 h_v172 => ?_)
        refine tk_Vi (As := [.int v172]) (rest := []) (ci := 2) ⟨hx, hb, hml, hown, hts⟩ hK hG hZ hS (k_X2_termOf l D cy ld t (ld 20) v172 ht_ld20) trivial ⟨callB_of 1 hts (wl_in mw_407) rfl rfl rfl (htl _ mw_14) (htl _ mw_404) hd_yX2_termOf ⟨(Nat.le_of_ble_eq_true rfl), (Nat.le_of_ble_eq_true rfl)⟩, htl _ mw_405, htl _ mw_406⟩ ht_ld20 (by decide) tk_no rfl (tk_w.pick [] rfl) rfl hl.1 rfl (Nat.le_of_ble_eq_true rfl) dX12_count_203 ⟨(Nat.le_of_ble_eq_true rfl), (Nat.le_of_ble_eq_true rfl)⟩ (fun v173 H locs hpo hG hS hq9 => ?_)
        refine lv_goto (tgt := 210) hx hb dX12_count_206 (by decide) ?_
        exact tk_iret (v := v173) hx hb hr rfl hlocks trivial hG hS dX12_count_210
    · have hc162 : ¬ (v155.toInt = 0) := fun h9 => c9 ((fi_eq rfl (show (0 : Int32).toInt = 0 by decide)).mpr h9)
      refine lv_aload_n hx hb dX12_count_174 rfl (lv_at hl 0 rfl) ?_
      refine tk_get (ci := 12) (C := RX12) (T := TX12) (N := 17) (sp := (6, 20, 5, 0)) hx hb htl inX12 hown hK hG ht_a0 (by decide) tk_no rfl 12 (by decide) (htl _ mw_54) (fun _ h9 => h9) rfl dX12_count_175 (fun v9 hf175 hV9 => ?_)
      obtain ⟨b176, rfl, ht_b176⟩ := hV9
      have ht_b176 : t b176 = (20, 5, 0) := ht_b176
      refine lv_iload_n hx hb dX12_count_178 rfl (lv_at hl 1 rfl) ?_
      refine lv_bipush (v := 7) hx hb dX12_count_179 (by decide) ?_
      refine lv_isub hx hb dX12_count_181 ?_
      refine tk_sub rfl (show (7 : Int32).toInt = 7 by decide) (by omega) (by omega) (fun v177 h_v177 => ?_)
      refine tk_iald hx hb hK hG ht_b176 (by decide) (fun _ h => h) tk_no rfl (by omega) (by omega) dX12_count_182 (fun v178 _ _ => ?_)
      have hr_v178 := tk_rng v178
      exact tk_iret (v := v178) hx hb hr rfl hlocks trivial hG hS dX12_count_183
  · refine lv_tableOut (tgt := 163) hx hb dX12_count_1 (by omega) (by decide) ?_
    refine lv_iload_n hx hb dX12_count_163 rfl (lv_at hl 1 rfl) ?_
    refine lv_bipush (v := 7) hx hb dX12_count_164 (by decide) ?_
    refine lv_bipush (v := 11) hx hb dX12_count_166 (by decide) ?_
    have hk_7 : (7 : Int32).toInt = 7 := by decide
    have hk_11 : (11 : Int32).toInt = 11 := by decide
    refine tk_Si (As := [.int p1, .int 7, .int 11]) (rest := []) ⟨hx, hb, hml, hown, hts⟩ hK hG hZ hS (k_X12_within l D cy ld t _ p1 7 11) trivial ⟨callB_of 3 hts (wl_in mw_262) rfl rfl rfl (htl _ mw_2) (htl _ mw_277) hd_yX12_within ⟨(Nat.le_of_ble_eq_true rfl), (Nat.le_of_ble_eq_true rfl)⟩, htl _ mw_261⟩ (tk_w.pick [] rfl) rfl hl.1 rfl (Nat.le_of_ble_eq_true rfl) dX12_count_168 ⟨(Nat.le_of_ble_eq_true rfl), (Nat.le_of_ble_eq_true rfl)⟩ (fun v179 H locs hpo hG hS hq9 => ?_)
    obtain ⟨hpo181, hpo182, hpo183, hpo184, hpo185⟩ := hpo
    refine lv_if_eq (tgt := 184) hx hb dX12_count_171 (by decide) (fun c9 => ?_) (fun c9 => ?_)
    · have hc186 : v179.toInt = 0 := (fi_eq rfl (show (0 : Int32).toInt = 0 by decide)).mp c9
      refine lv_iload_n hx hb dX12_count_184 rfl (lv_at hl 1 rfl) ?_
      refine lv_bipush (v := 15) hx hb dX12_count_185 (by decide) ?_
      refine lv_bipush (v := 18) hx hb dX12_count_187 (by decide) ?_
      have hk_15 : (15 : Int32).toInt = 15 := by decide
      have hk_18 : (18 : Int32).toInt = 18 := by decide
      refine tk_Si (As := [.int p1, .int 15, .int 18]) (rest := []) ⟨hx, hb, hml, hown, hts⟩ hK hG hZ hS (k_X12_within l D cy ld t _ p1 15 18) trivial ⟨callB_of 3 hts (wl_in mw_262) rfl rfl rfl (htl _ mw_2) (htl _ mw_277) hd_yX12_within ⟨(Nat.le_of_ble_eq_true rfl), (Nat.le_of_ble_eq_true rfl)⟩, htl _ mw_261⟩ (tk_w.pick [] rfl) rfl hl.1 rfl (Nat.le_of_ble_eq_true rfl) dX12_count_189 ⟨(Nat.le_of_ble_eq_true rfl), (Nat.le_of_ble_eq_true rfl)⟩ (fun v187 H locs hpo hG hS hq9 => ?_)
      obtain ⟨hpo189, hpo190, hpo191, hpo192, hpo193⟩ := hpo
      refine lv_if_eq (tgt := 209) hx hb dX12_count_192 (by decide) (fun c9 => ?_) (fun c9 => ?_)
      · have hc194 : v187.toInt = 0 := (fi_eq rfl (show (0 : Int32).toInt = 0 by decide)).mp c9
        refine lv_iconst (v := (-1)) hx hb dX12_count_209 (by decide) ?_
        have hk_m1 : ((-1) : Int32).toInt = (-1) := by decide
        exact tk_iret (v := (-1)) hx hb hr rfl hlocks trivial hG hS dX12_count_210
      · have hc194 : ¬ (v187.toInt = 0) := fun h9 => c9 ((fi_eq rfl (show (0 : Int32).toInt = 0 by decide)).mpr h9)
        refine lv_aload_n hx hb dX12_count_195 rfl (lv_at hl 0 rfl) ?_
        refine tk_get (ci := 12) (C := RX12) (T := TX12) (N := 17) (sp := (8, 20, 3, 0)) hx hb htl inX12 hown hK hG ht_a0 (by decide) tk_no rfl 0 (by decide) (htl _ mw_15) (fun _ h9 => h9) rfl dX12_count_196 (fun v9 hf195 hV9 => ?_)
        obtain ⟨rfl, ht_ld20⟩ := hV9
        have ht_ld20 : t (ld 20) = (3, 0, 0) := ht_ld20
        refine fx_top (v := .ref (ld 20)) rfl ?_
        refine lv_iload_n hx hb dX12_count_199 rfl (lv_at hl 1 rfl) ?_
        refine lv_bipush (v := 15) hx hb dX12_count_200 (by decide) ?_
        refine lv_isub hx hb dX12_count_202 ?_
        refine tk_sub rfl (show (15 : Int32).toInt = 15 by decide) (by omega) (by omega) (fun v196 h_v196 => ?_)
        refine tk_Vi (As := [.int v196]) (rest := []) (ci := 2) ⟨hx, hb, hml, hown, hts⟩ hK hG hZ hS (k_X2_termOf l D cy ld t (ld 20) v196 ht_ld20) trivial ⟨callB_of 1 hts (wl_in mw_407) rfl rfl rfl (htl _ mw_14) (htl _ mw_404) hd_yX2_termOf ⟨(Nat.le_of_ble_eq_true rfl), (Nat.le_of_ble_eq_true rfl)⟩, htl _ mw_405, htl _ mw_406⟩ ht_ld20 (by decide) tk_no rfl (tk_w.pick [] rfl) rfl hl.1 rfl (Nat.le_of_ble_eq_true rfl) dX12_count_203 ⟨(Nat.le_of_ble_eq_true rfl), (Nat.le_of_ble_eq_true rfl)⟩ (fun v197 H locs hpo hG hS hq9 => ?_)
        refine lv_goto (tgt := 210) hx hb dX12_count_206 (by decide) ?_
        exact tk_iret (v := v197) hx hb hr rfl hlocks trivial hG hS dX12_count_210
    · have hc186 : ¬ (v179.toInt = 0) := fun h9 => c9 ((fi_eq rfl (show (0 : Int32).toInt = 0 by decide)).mpr h9)
      refine lv_aload_n hx hb dX12_count_174 rfl (lv_at hl 0 rfl) ?_
      refine tk_get (ci := 12) (C := RX12) (T := TX12) (N := 17) (sp := (6, 20, 5, 0)) hx hb htl inX12 hown hK hG ht_a0 (by decide) tk_no rfl 12 (by decide) (htl _ mw_54) (fun _ h9 => h9) rfl dX12_count_175 (fun v9 hf199 hV9 => ?_)
      obtain ⟨b200, rfl, ht_b200⟩ := hV9
      have ht_b200 : t b200 = (20, 5, 0) := ht_b200
      refine lv_iload_n hx hb dX12_count_178 rfl (lv_at hl 1 rfl) ?_
      refine lv_bipush (v := 7) hx hb dX12_count_179 (by decide) ?_
      refine lv_isub hx hb dX12_count_181 ?_
      refine tk_sub rfl (show (7 : Int32).toInt = 7 by decide) (by omega) (by omega) (fun v201 h_v201 => ?_)
      refine tk_iald hx hb hK hG ht_b200 (by decide) (fun _ h => h) tk_no rfl (by omega) (by omega) dX12_count_182 (fun v202 _ _ => ?_)
      have hr_v202 := tk_rng v202
      exact tk_iret (v := v202) hx hb hr rfl hlocks trivial hG hS dX12_count_183
theorem dX12_status_0 : decode cX12_status 0 = .ok (.aload_n 0, 1) := by decide +kernel
theorem dX12_status_1 : decode cX12_status 1 = .ok (.getfield 355, 3) := by decide +kernel
theorem dX12_status_4 : decode cX12_status 4 = .ok (.ireturn, 1) := by decide +kernel
set_option maxHeartbeats 4000000 in
set_option maxRecDepth 100000 in
theorem k_X12_status (l : Launch) (D : va_G) (cy : Nat → ClassId) (ld : Nat → Nat) (t : tk_T) (a0 : Nat) (ht_a0 : t a0 = (13, 0, 0)) : Met l yX12_status (wl yX12_status cX12_status 1 (some .int)) ({ frames := 3, cells := 0, slots := 0, locals := 140 }) (tp D cy ld t [] [.ref a0] (fun H => True)) (ti D cy ld t [] (fun r H => True) (tk_w t [])) 0 0 (tk_w t []) := by
  refine tk_met (y := yX12_status) (cc := cX12_status) (maxL := 1) (ret := (some .int)) (av := [.ref a0]) _ _ (by decide) (Nat.le_of_ble_eq_true rfl) ?_
  intro p e s m args below meth c hx hb hr hml hts htl hown hlocks hK H locs hH hG hS hB hZ ls hl
  have hown : s.vm.findClass RX12 = some m.cls := hown
  have hl : lv_has ls 1 [(0, .ref a0)] := hl
  refine lv_aload_n hx hb dX12_status_0 rfl (lv_at hl 0 rfl) ?_
  refine tk_get (ci := 12) (C := RX12) (T := TX12) (N := 17) (sp := (0, (-2147483648), 2147483647, 0)) hx hb htl inX12 hown hK hG ht_a0 (by decide) tk_no rfl 16 (by decide) (htl _ mw_276) (fun _ h9 => h9) rfl dX12_status_1 (fun v9 hf1 hV9 => ?_)
  obtain ⟨v2, rfl, (ha_v2 : (-2147483648) ≤ v2.toInt), (hb_v2 : v2.toInt ≤ 2147483647)⟩ := hV9
  exact tk_iret (v := v2) hx hb hr rfl hlocks trivial hG hS dX12_status_4
