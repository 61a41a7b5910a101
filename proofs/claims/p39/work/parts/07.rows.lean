theorem dX3_joinMore_0 : decode cX3_joinMore 0 = .ok (.iload_n 1, 1) := by decide +kernel
theorem dX3_joinMore_1 : decode cX3_joinMore 1 = .ok (.ifCond .le 35, 3) := by decide +kernel
theorem dX3_joinMore_4 : decode cX3_joinMore 4 = .ok (.iload_n 3, 1) := by decide +kernel
theorem dX3_joinMore_5 : decode cX3_joinMore 5 = .ok (.aload_n 0, 1) := by decide +kernel
theorem dX3_joinMore_6 : decode cX3_joinMore 6 = .ok (.getfield 26, 3) := by decide +kernel
theorem dX3_joinMore_36 : decode cX3_joinMore 36 = .ok (.iload_n 1, 1) := by decide +kernel
theorem dX3_joinMore_37 : decode cX3_joinMore 37 = .ok (.iconst 4, 1) := by decide +kernel
theorem dX3_joinMore_38 : decode cX3_joinMore 38 = .ok (.if_icmp .lt 4, 3) := by decide +kernel
theorem dX3_joinMore_41 : decode cX3_joinMore 41 = .ok (.return_, 1) := by decide +kernel
theorem dX3_joinMore_9 : decode cX3_joinMore 9 = .ok (.if_icmp .le 27, 3) := by decide +kernel
theorem dX3_joinMore_12 : decode cX3_joinMore 12 = .ok (.aload_n 0, 1) := by decide +kernel
theorem dX3_joinMore_13 : decode cX3_joinMore 13 = .ok (.iload_n 3, 1) := by decide +kernel
theorem dX3_joinMore_14 : decode cX3_joinMore 14 = .ok (.putfield 26, 3) := by decide +kernel
theorem dX3_joinMore_17 : decode cX3_joinMore 17 = .ok (.aload_n 0, 1) := by decide +kernel
theorem dX3_joinMore_18 : decode cX3_joinMore 18 = .ok (.iload_n 1, 1) := by decide +kernel
theorem dX3_joinMore_19 : decode cX3_joinMore 19 = .ok (.putfield 22, 3) := by decide +kernel
theorem dX3_joinMore_22 : decode cX3_joinMore 22 = .ok (.aload_n 0, 1) := by decide +kernel
theorem dX3_joinMore_23 : decode cX3_joinMore 23 = .ok (.getfield 11, 3) := by decide +kernel
theorem dX3_joinMore_26 : decode cX3_joinMore 26 = .ok (.iconst 0, 1) := by decide +kernel
theorem dX3_joinMore_27 : decode cX3_joinMore 27 = .ok (.aload_n 0, 1) := by decide +kernel
theorem dX3_joinMore_28 : decode cX3_joinMore 28 = .ok (.getfield 15, 3) := by decide +kernel
theorem dX3_joinMore_31 : decode cX3_joinMore 31 = .ok (.iconst 0, 1) := by decide +kernel
theorem dX3_joinMore_32 : decode cX3_joinMore 32 = .ok (.iconst 4, 1) := by decide +kernel
theorem dX3_joinMore_33 : decode cX3_joinMore 33 = .ok (.invokestatic 37, 3) := by decide +kernel
set_option maxHeartbeats 4000000 in
set_option maxRecDepth 100000 in
theorem k_X3_joinMore_4 (l : Launch) (D : va_G) (cy : Nat → ClassId) (ld : Nat → Nat) (t : tk_T) (a0 : Nat) (p2 : Int32) (p3 : Int32) (p4 : Int32) (ht_a0 : t a0 = (4, 0, 0)) : Met l yX3_joinMore (wl yX3_joinMore cX3_joinMore 8 none) ({ frames := 4, cells := 0, slots := 0, locals := 210 }) (tp D cy ld t [] [.ref a0, .int 4, .int p2, .int p3, .int p4] (fun H => True)) (tv D cy ld t [] (fun H => True) (tk_w t [(4, 0, 0), (20, 0, 0)])) 0 0 (tk_w t [(4, 0, 0), (20, 0, 0)]) := by
  refine tk_met (y := yX3_joinMore) (cc := cX3_joinMore) (maxL := 8) (ret := none) (av := [.ref a0, .int 4, .int p2, .int p3, .int p4]) _ _ (by decide) (Nat.le_of_ble_eq_true rfl) ?_
  intro p e s m args below meth c hx hb hr hml hts htl hown hlocks hK H locs hH hG hS hB hZ ls hl
  have hown : s.vm.findClass RX3 = some m.cls := hown
  have hl : lv_has ls 8 [(0, .ref a0), (1, .int 4), (2, .int p2), (3, .int p3), (4, .int p4)] := hl
  have hr_p2 := tk_rng p2
  have hr_p3 := tk_rng p3
  have hr_p4 := tk_rng p4
  refine lv_iload_n hx hb dX3_joinMore_0 rfl (lv_at hl 1 rfl) ?_
  refine lv_if_le (tgt := 36) hx hb dX3_joinMore_1 (by decide) (fun c9 => absurd c9 (by decide)) (fun _ => ?_)
  refine lv_iload_n hx hb dX3_joinMore_4 rfl (lv_at hl 3 rfl) ?_
  refine lv_aload_n hx hb dX3_joinMore_5 rfl (lv_at hl 0 rfl) ?_
  refine tk_get (ci := 3) (C := RX3) (T := TX3) (N := 5) (sp := (0, (-2147483648), 2147483647, 0)) hx hb htl inX3 hown hK hG ht_a0 (by decide) tk_no rfl 4 (by decide) (htl _ mw_1456) (fun _ h9 => h9) rfl dX3_joinMore_6 (fun v9 hf1 hV9 => ?_)
  obtain ⟨v2, rfl, ha_v2, hb_v2⟩ := hV9
  have hj15 : ∀ (H : Heap) (locs : List Loc), tk_G D cy ld t [] H → va_S (tk_w t [(4, 0, 0), (20, 0, 0)]) s.heap H locs → ∀ ls : Array Slot, lv_has ls 8 [(0, .ref a0), (1, .int 4), (2, .int p2), (3, .int p3), (4, .int p4)] → W p l e ({ frames := 4, cells := 0, slots := 0, locals := 210 }) s m args below meth c H locs 0 0 (MQ below (tv D cy ld t [] (fun H => True) (tk_w t [(4, 0, 0), (20, 0, 0)])) args s 0 0 (tk_w t [(4, 0, 0), (20, 0, 0)])) (F0 m 36 ls []) := by
    intro H locs hG hS ls hl
    refine lv_iload_n hx hb dX3_joinMore_36 rfl (lv_at hl 1 rfl) ?_
    refine lv_iconst (v := 4) hx hb dX3_joinMore_37 (by decide) ?_
    refine lv_icmp_lt (tgt := 42) hx hb dX3_joinMore_38 (by decide) (fun c9 => absurd c9 (by decide)) (fun _ => ?_)
    exact tk_vret hx hb hr hlocks trivial hG hS dX3_joinMore_41
  refine lv_icmp_le (tgt := 36) hx hb dX3_joinMore_9 (by decide) (fun c9 => ?_) (fun c9 => ?_)
  · have hc3 : p3.toInt ≤ v2.toInt := (fi_le rfl rfl).mp c9
    exact hj15 _ _ hG hS _ (lv_sub hl [0, 1, 2, 3, 4] rfl)
  · have hc3 : ¬ (p3.toInt ≤ v2.toInt) := fun h9 => c9 ((fi_le rfl rfl).mpr h9)
    refine lv_aload_n hx hb dX3_joinMore_12 rfl (lv_at hl 0 rfl) ?_
    refine lv_iload_n hx hb dX3_joinMore_13 rfl (lv_at hl 3 rfl) ?_
    refine tk_put (ci := 3) (v := .int p3) (ty := .int) (C := RX3) (T := TX3) (N := 5) (sp := (0, (-2147483648), 2147483647, 0)) hx hb htl inX3 tyX3 tyX3_ok nmX3 hown hK hG hS ht_a0 (by decide) tk_no rfl 4 (by decide) (htl _ mw_1456) (fun _ h9 => h9) rfl (tyX3_ok 4 (by decide)) rfl rfl rfl (tk_Vi (tk_rng _).1 (tk_rng _).2) (fun _ h => h) (tk_w.of ht_a0 (by decide) (List.mem_of_getElem? (i := 0) rfl) (Nat.le_refl _) (Nat.le_refl _)) dX3_joinMore_14 (fun H locs hG hS hf16 hq9 hj9 => ?_)
    refine lv_aload_n hx hb dX3_joinMore_17 rfl (lv_at hl 0 rfl) ?_
    refine lv_iload_n hx hb dX3_joinMore_18 rfl (lv_at hl 1 rfl) ?_
    refine tk_put (ci := 3) (v := .int 4) (ty := .int) (C := RX3) (T := TX3) (N := 5) (sp := (0, 0, 4, 0)) hx hb htl inX3 tyX3 tyX3_ok nmX3 hown hK hG hS ht_a0 (by decide) tk_no rfl 3 (by decide) (htl _ mw_1455) (fun _ h9 => h9) rfl (tyX3_ok 3 (by decide)) rfl rfl rfl (tk_Vi (by decide) (by decide)) (fun _ h => h) (tk_w.of ht_a0 (by decide) (List.mem_of_getElem? (i := 0) rfl) (Nat.le_refl _) (Nat.le_refl _)) dX3_joinMore_19 (fun H locs hG hS hf18 hq9 hj9 => ?_)
    refine lv_aload_n hx hb dX3_joinMore_22 rfl (lv_at hl 0 rfl) ?_
    refine tk_get (ci := 3) (C := RX3) (T := TX3) (N := 5) (sp := (6, 22, 4, 0)) hx hb htl inX3 hown hK hG ht_a0 (by decide) tk_no rfl 1 (by decide) (htl _ mw_173) (fun _ h9 => h9) rfl dX3_joinMore_23 (fun v9 hf20 hV9 => ?_)
    obtain ⟨b21, rfl, ht_b21⟩ := hV9
    have ht_b21 : t b21 = (22, 4, 0) := ht_b21
    refine lv_iconst (v := 0) hx hb dX3_joinMore_26 (by decide) ?_
    refine lv_aload_n hx hb dX3_joinMore_27 rfl (lv_at hl 0 rfl) ?_
    refine tk_get (ci := 3) (C := RX3) (T := TX3) (N := 5) (sp := (6, 20, 4, 0)) hx hb htl inX3 hown hK hG ht_a0 (by decide) tk_no rfl 2 (by decide) (htl _ mw_174) (fun _ h9 => h9) rfl dX3_joinMore_28 (fun v9 hf22 hV9 => ?_)
    obtain ⟨b23, rfl, ht_b23⟩ := hV9
    have ht_b23 : t b23 = (20, 4, 0) := ht_b23
    refine lv_iconst (v := 0) hx hb dX3_joinMore_31 (by decide) ?_
    refine lv_iconst (v := 4) hx hb dX3_joinMore_32 (by decide) ?_
    refine tk_copy (SP := 0) (DP := 0) (NC := 4) hx hb (by rw [hml]; exact hl.1.symm) hown (htl _ mw_1461) (htl _ mw_655) (htl _ mw_656) (htl _ mw_657) hK hG hS ht_b21 ht_b23 (by decide) (by decide) (fun _ h => h) (fun _ => Iff.rfl) tk_no tk_no (by decide) (by decide) (by decide) (by decide) (by decide) (by decide) (by decide) (by decide) (fun _ _ _ _ _ => trivial) (tk_w.of ht_b23 (by decide) (List.mem_of_getElem? (i := 1) rfl) (Nat.le_refl _) (Nat.le_refl _)) (Nat.le_of_ble_eq_true rfl) (Nat.le_of_ble_eq_true rfl) dX3_joinMore_33 (fun H locs hG hS hq9 => ?_)
    exact hj15 _ _ hG hS _ (lv_sub hl [0, 1, 2, 3, 4] rfl)
theorem dX3_joinMore_42 : decode cX3_joinMore 42 = .ok (.iconst 0, 1) := by decide +kernel
theorem dX3_joinMore_43 : decode cX3_joinMore 43 = .ok (.istore 5, 2) := by decide +kernel
theorem dX3_joinMore_45 : decode cX3_joinMore 45 = .ok (.iload 5, 2) := by decide +kernel
theorem dX3_joinMore_47 : decode cX3_joinMore 47 = .ok (.aload_n 0, 1) := by decide +kernel
theorem dX3_joinMore_48 : decode cX3_joinMore 48 = .ok (.getfield 18, 3) := by decide +kernel
theorem dX3_joinMore_51 : decode cX3_joinMore 51 = .ok (.getfield 43, 3) := by decide +kernel
theorem dX3_joinMore_54 : decode cX3_joinMore 54 = .ok (.if_icmp .ge 134, 3) := by decide +kernel
theorem dX3_joinMore_188 : decode cX3_joinMore 188 = .ok (.return_, 1) := by decide +kernel
theorem dX3_joinMore_57 : decode cX3_joinMore 57 = .ok (.iload_n 2, 1) := by decide +kernel
theorem dX3_joinMore_58 : decode cX3_joinMore 58 = .ok (.iload 5, 2) := by decide +kernel
theorem dX3_joinMore_60 : decode cX3_joinMore 60 = .ok (.ishr, 1) := by decide +kernel
theorem dX3_joinMore_61 : decode cX3_joinMore 61 = .ok (.iconst 1, 1) := by decide +kernel
theorem dX3_joinMore_62 : decode cX3_joinMore 62 = .ok (.iand, 1) := by decide +kernel
theorem dX3_joinMore_182 : decode cX3_joinMore 182 = .ok (.iinc 5 1, 3) := by decide +kernel
theorem dX3_joinMore_185 : decode cX3_joinMore 185 = .ok (.goto (-140), 3) := by decide +kernel
theorem dX3_joinMore_63 : decode cX3_joinMore 63 = .ok (.ifCond .ne 119, 3) := by decide +kernel
theorem dX3_joinMore_66 : decode cX3_joinMore 66 = .ok (.aload_n 0, 1) := by decide +kernel
theorem dX3_joinMore_67 : decode cX3_joinMore 67 = .ok (.getfield 18, 3) := by decide +kernel
theorem dX3_joinMore_70 : decode cX3_joinMore 70 = .ok (.getfield 48, 3) := by decide +kernel
theorem dX3_joinMore_73 : decode cX3_joinMore 73 = .ok (.iload 5, 2) := by decide +kernel
theorem dX3_joinMore_75 : decode cX3_joinMore 75 = .ok (.iaload, 1) := by decide +kernel
theorem dX3_joinMore_76 : decode cX3_joinMore 76 = .ok (.iload 4, 2) := by decide +kernel
theorem dX3_joinMore_78 : decode cX3_joinMore 78 = .ok (.if_icmp .gt 104, 3) := by decide +kernel
theorem dX3_joinMore_81 : decode cX3_joinMore 81 = .ok (.iload_n 1, 1) := by decide +kernel
theorem dX3_joinMore_82 : decode cX3_joinMore 82 = .ok (.ifCond .le 36, 3) := by decide +kernel
theorem dX3_joinMore_85 : decode cX3_joinMore 85 = .ok (.aload_n 0, 1) := by decide +kernel
theorem dX3_joinMore_86 : decode cX3_joinMore 86 = .ok (.getfield 18, 3) := by decide +kernel
theorem dX3_joinMore_89 : decode cX3_joinMore 89 = .ok (.getfield 51, 3) := by decide +kernel
theorem dX3_joinMore_92 : decode cX3_joinMore 92 = .ok (.aload_n 0, 1) := by decide +kernel
theorem dX3_joinMore_93 : decode cX3_joinMore 93 = .ok (.getfield 11, 3) := by decide +kernel
theorem dX3_joinMore_96 : decode cX3_joinMore 96 = .ok (.iload_n 1, 1) := by decide +kernel
theorem dX3_joinMore_97 : decode cX3_joinMore 97 = .ok (.iconst 1, 1) := by decide +kernel
theorem dX3_joinMore_98 : decode cX3_joinMore 98 = .ok (.isub, 1) := by decide +kernel
theorem dX3_joinMore_99 : decode cX3_joinMore 99 = .ok (.iaload, 1) := by decide +kernel
theorem dX3_joinMore_100 : decode cX3_joinMore 100 = .ok (.iaload, 1) := by decide +kernel
theorem dX3_joinMore_101 : decode cX3_joinMore 101 = .ok (.aload_n 0, 1) := by decide +kernel
theorem dX3_joinMore_102 : decode cX3_joinMore 102 = .ok (.getfield 18, 3) := by decide +kernel
theorem dX3_joinMore_105 : decode cX3_joinMore 105 = .ok (.getfield 51, 3) := by decide +kernel
theorem dX3_joinMore_108 : decode cX3_joinMore 108 = .ok (.iload 5, 2) := by decide +kernel
theorem dX3_joinMore_110 : decode cX3_joinMore 110 = .ok (.iaload, 1) := by decide +kernel
theorem dX3_joinMore_119 : decode cX3_joinMore 119 = .ok (.istore 6, 2) := by decide +kernel
theorem dX3_joinMore_121 : decode cX3_joinMore 121 = .ok (.aload_n 0, 1) := by decide +kernel
theorem dX3_joinMore_122 : decode cX3_joinMore 122 = .ok (.getfield 11, 3) := by decide +kernel
theorem dX3_joinMore_125 : decode cX3_joinMore 125 = .ok (.iload_n 1, 1) := by decide +kernel
theorem dX3_joinMore_126 : decode cX3_joinMore 126 = .ok (.iload 5, 2) := by decide +kernel
theorem dX3_joinMore_128 : decode cX3_joinMore 128 = .ok (.iastore, 1) := by decide +kernel
theorem dX3_joinMore_129 : decode cX3_joinMore 129 = .ok (.iload_n 3, 1) := by decide +kernel
theorem dX3_joinMore_130 : decode cX3_joinMore 130 = .ok (.aload_n 0, 1) := by decide +kernel
theorem dX3_joinMore_131 : decode cX3_joinMore 131 = .ok (.getfield 18, 3) := by decide +kernel
theorem dX3_joinMore_134 : decode cX3_joinMore 134 = .ok (.getfield 54, 3) := by decide +kernel
theorem dX3_joinMore_137 : decode cX3_joinMore 137 = .ok (.iload 5, 2) := by decide +kernel
theorem dX3_joinMore_139 : decode cX3_joinMore 139 = .ok (.iaload, 1) := by decide +kernel
theorem dX3_joinMore_140 : decode cX3_joinMore 140 = .ok (.iadd, 1) := by decide +kernel
theorem dX3_joinMore_141 : decode cX3_joinMore 141 = .ok (.iload 6, 2) := by decide +kernel
theorem dX3_joinMore_151 : decode cX3_joinMore 151 = .ok (.iadd, 1) := by decide +kernel
theorem dX3_joinMore_152 : decode cX3_joinMore 152 = .ok (.istore 7, 2) := by decide +kernel
theorem dX3_joinMore_154 : decode cX3_joinMore 154 = .ok (.aload_n 0, 1) := by decide +kernel
theorem dX3_joinMore_155 : decode cX3_joinMore 155 = .ok (.iload_n 1, 1) := by decide +kernel
theorem dX3_joinMore_156 : decode cX3_joinMore 156 = .ok (.iconst 1, 1) := by decide +kernel
theorem dX3_joinMore_157 : decode cX3_joinMore 157 = .ok (.iadd, 1) := by decide +kernel
theorem dX3_joinMore_158 : decode cX3_joinMore 158 = .ok (.iload_n 2, 1) := by decide +kernel
theorem dX3_joinMore_159 : decode cX3_joinMore 159 = .ok (.iconst 1, 1) := by decide +kernel
theorem dX3_joinMore_160 : decode cX3_joinMore 160 = .ok (.iload 5, 2) := by decide +kernel
theorem dX3_joinMore_162 : decode cX3_joinMore 162 = .ok (.ishl, 1) := by decide +kernel
theorem dX3_joinMore_163 : decode cX3_joinMore 163 = .ok (.ior, 1) := by decide +kernel
theorem dX3_joinMore_164 : decode cX3_joinMore 164 = .ok (.iload 7, 2) := by decide +kernel
theorem dX3_joinMore_166 : decode cX3_joinMore 166 = .ok (.iload 4, 2) := by decide +kernel
theorem dX3_joinMore_168 : decode cX3_joinMore 168 = .ok (.aload_n 0, 1) := by decide +kernel
theorem dX3_joinMore_169 : decode cX3_joinMore 169 = .ok (.getfield 18, 3) := by decide +kernel
theorem dX3_joinMore_172 : decode cX3_joinMore 172 = .ok (.getfield 48, 3) := by decide +kernel
theorem dX3_joinMore_175 : decode cX3_joinMore 175 = .ok (.iload 5, 2) := by decide +kernel
theorem dX3_joinMore_177 : decode cX3_joinMore 177 = .ok (.iaload, 1) := by decide +kernel
theorem dX3_joinMore_178 : decode cX3_joinMore 178 = .ok (.isub, 1) := by decide +kernel
theorem dX3_joinMore_179 : decode cX3_joinMore 179 = .ok (.invokevirtual 29, 3) := by decide +kernel
theorem dX3_joinMore_143 : decode cX3_joinMore 143 = .ok (.ifCond .eq 7, 3) := by decide +kernel
theorem dX3_joinMore_150 : decode cX3_joinMore 150 = .ok (.iconst 0, 1) := by decide +kernel
theorem dX3_joinMore_146 : decode cX3_joinMore 146 = .ok (.iconst 3, 1) := by decide +kernel
theorem dX3_joinMore_147 : decode cX3_joinMore 147 = .ok (.goto 4, 3) := by decide +kernel
theorem dX3_joinMore_111 : decode cX3_joinMore 111 = .ok (.if_icmp .ne 7, 3) := by decide +kernel
theorem dX3_joinMore_118 : decode cX3_joinMore 118 = .ok (.iconst 0, 1) := by decide +kernel
theorem dX3_joinMore_114 : decode cX3_joinMore 114 = .ok (.iconst 1, 1) := by decide +kernel
theorem dX3_joinMore_115 : decode cX3_joinMore 115 = .ok (.goto 4, 3) := by decide +kernel
set_option maxHeartbeats 4000000 in
set_option maxRecDepth 100000 in
theorem k_X3_joinMore_3 (l : Launch) (D : va_G) (cy : Nat → ClassId) (ld : Nat → Nat) (t : tk_T) (a0 : Nat) (p2 : Int32) (p3 : Int32) (p4 : Int32) (ht_a0 : t a0 = (4, 0, 0)) : Met l yX3_joinMore (wl yX3_joinMore cX3_joinMore 8 none) ({ frames := 5, cells := 0, slots := 0, locals := 280 }) (tp D cy ld t [] [.ref a0, .int 3, .int p2, .int p3, .int p4] (fun H => True)) (tv D cy ld t [] (fun H => True) (tk_w t [(4, 0, 0), (20, 0, 0), (22, 0, 0)])) 0 0 (tk_w t [(4, 0, 0), (20, 0, 0), (22, 0, 0)]) := by
  refine tk_met (y := yX3_joinMore) (cc := cX3_joinMore) (maxL := 8) (ret := none) (av := [.ref a0, .int 3, .int p2, .int p3, .int p4]) _ _ (by decide) (Nat.le_of_ble_eq_true rfl) ?_
  intro p e s m args below meth c hx hb hr hml hts htl hown hlocks hK H locs hH hG hS hB hZ ls hl
  have hown : s.vm.findClass RX3 = some m.cls := hown
  have hl : lv_has ls 8 [(0, .ref a0), (1, .int 3), (2, .int p2), (3, .int p3), (4, .int p4)] := hl
  have hr_p2 := tk_rng p2
  have hr_p3 := tk_rng p3
  have hr_p4 := tk_rng p4
  refine lv_iload_n hx hb dX3_joinMore_0 rfl (lv_at hl 1 rfl) ?_
  refine lv_if_le (tgt := 36) hx hb dX3_joinMore_1 (by decide) (fun c9 => absurd c9 (by decide)) (fun _ => ?_)
  refine lv_iload_n hx hb dX3_joinMore_4 rfl (lv_at hl 3 rfl) ?_
  refine lv_aload_n hx hb dX3_joinMore_5 rfl (lv_at hl 0 rfl) ?_
  refine tk_get (ci := 3) (C := RX3) (T := TX3) (N := 5) (sp := (0, (-2147483648), 2147483647, 0)) hx hb htl inX3 hown hK hG ht_a0 (by decide) tk_no rfl 4 (by decide) (htl _ mw_1456) (fun _ h9 => h9) rfl dX3_joinMore_6 (fun v9 hf1 hV9 => ?_)
  obtain ⟨v2, rfl, ha_v2, hb_v2⟩ := hV9
  have hj15 : ∀ (H : Heap) (locs : List Loc), tk_G D cy ld t [] H → va_S (tk_w t [(4, 0, 0), (20, 0, 0), (22, 0, 0)]) s.heap H locs → ∀ ls : Array Slot, lv_has ls 8 [(0, .ref a0), (1, .int 3), (2, .int p2), (3, .int p3), (4, .int p4)] → W p l e ({ frames := 5, cells := 0, slots := 0, locals := 280 }) s m args below meth c H locs 0 0 (MQ below (tv D cy ld t [] (fun H => True) (tk_w t [(4, 0, 0), (20, 0, 0), (22, 0, 0)])) args s 0 0 (tk_w t [(4, 0, 0), (20, 0, 0), (22, 0, 0)])) (F0 m 36 ls []) := by
    intro H locs hG hS ls hl
    refine lv_iload_n hx hb dX3_joinMore_36 rfl (lv_at hl 1 rfl) ?_
    refine lv_iconst (v := 4) hx hb dX3_joinMore_37 (by decide) ?_
    refine lv_icmp_lt (tgt := 42) hx hb dX3_joinMore_38 (by decide) (fun _ => ?_) (fun c9 => absurd (by decide) c9)
    refine lv_iconst (v := 0) hx hb dX3_joinMore_42 (by decide) ?_
    refine lv_istore (lv' := [(5, .int 0), (0, .ref a0), (1, .int 3), (2, .int p2), (3, .int p3), (4, .int p4)]) hx hb dX3_joinMore_43 hl (by decide) rfl (fun ls hl => ?_)
    have hl1292 : ∀ (N : Nat) (v16 : Int32) (H : Heap) (locs : List Loc), v16.toInt ≤ 10 → 0 ≤ v16.toInt → (-1) * v16.toInt + 10 < (N : Int) → tk_G D cy ld t [] H → va_S (tk_w t [(4, 0, 0), (20, 0, 0), (22, 0, 0)]) s.heap H locs → ∀ ls : Array Slot, lv_has ls 8 [(5, .int v16), (0, .ref a0), (1, .int 3), (2, .int p2), (3, .int p3), (4, .int p4)] → W p l e ({ frames := 5, cells := 0, slots := 0, locals := 280 }) s m args below meth c H locs 0 0 (MQ below (tv D cy ld t [] (fun H => True) (tk_w t [(4, 0, 0), (20, 0, 0), (22, 0, 0)])) args s 0 0 (tk_w t [(4, 0, 0), (20, 0, 0), (22, 0, 0)])) (F0 m 45 ls []) := by
      intro N
      induction N with
      | zero => intro v16 H locs hq0_l1292 hq1_l1292 hm_l1292 hG hS ls hl; exfalso; omega
      | succ N ih =>
        intro v16 H locs hq0_l1292 hq1_l1292 hm_l1292 hG hS ls hl
        refine lv_iload hx hb dX3_joinMore_45 (lv_at hl 0 rfl) ?_
        refine lv_aload_n hx hb dX3_joinMore_47 rfl (lv_at hl 1 rfl) ?_
        refine tk_get (ci := 3) (C := RX3) (T := TX3) (N := 5) (sp := (8, 20, 3, 0)) hx hb htl inX3 hown hK hG ht_a0 (by decide) tk_no rfl 0 (by decide) (htl _ mw_175) (fun _ h9 => h9) rfl dX3_joinMore_48 (fun v9 hf1293 hV9 => ?_)
        obtain ⟨rfl, ht_ld20⟩ := hV9
        have ht_ld20 : t (ld 20) = (3, 0, 0) := ht_ld20
        refine fx_top (v := .ref (ld 20)) rfl ?_
        refine tk_get (ci := 2) (C := RX2) (T := TX2) (N := 20) (sp := (0, 0, 10, 0)) hx hb htl inX2 hown hK hG ht_ld20 (by decide) tk_no rfl 7 (by decide) (htl _ mw_1462) (fun _ h9 => h9) rfl dX3_joinMore_51 (fun v9 hf1294 hV9 => ?_)
        obtain ⟨v1295, rfl, ha_v1295, hb_v1295⟩ := hV9
        refine lv_icmp_ge (tgt := 188) hx hb dX3_joinMore_54 (by decide) (fun c9 => ?_) (fun c9 => ?_)
        · have hc1296 : v1295.toInt ≤ v16.toInt := (fi_le rfl rfl).mp c9
          exact tk_vret hx hb hr hlocks trivial hG hS dX3_joinMore_188
        · have hc1296 : ¬ (v1295.toInt ≤ v16.toInt) := fun h9 => c9 ((fi_le rfl rfl).mpr h9)
          refine lv_iload_n hx hb dX3_joinMore_57 rfl (lv_at hl 3 rfl) ?_
          refine lv_iload hx hb dX3_joinMore_58 (lv_at hl 0 rfl) ?_
          refine lv_ishr hx hb dX3_joinMore_60 ?_
          refine tk_any (fun v1386 => ?_)
          refine lv_iconst (v := 1) hx hb dX3_joinMore_61 (by decide) ?_
          refine lv_iand hx hb dX3_joinMore_62 ?_
          refine tk_say (P := fun z => 0 ≤ z.toInt ∧ z.toInt ≤ 1) (tk_and v1386 1 (by decide) (by decide)) (fun v1387 h_v1387 => ?_)
          have hj1432 : ∀ (H : Heap) (locs : List Loc), tk_G D cy ld t [] H → va_S (tk_w t [(4, 0, 0), (20, 0, 0), (22, 0, 0)]) s.heap H locs → tk_f D H (ld 20) 2 7 (.int v1295) → ∀ ls : Array Slot, lv_has ls 8 [(5, .int v16), (0, .ref a0), (1, .int 3), (2, .int p2), (3, .int p3), (4, .int p4)] → W p l e ({ frames := 5, cells := 0, slots := 0, locals := 280 }) s m args below meth c H locs 0 0 (MQ below (tv D cy ld t [] (fun H => True) (tk_w t [(4, 0, 0), (20, 0, 0), (22, 0, 0)])) args s 0 0 (tk_w t [(4, 0, 0), (20, 0, 0), (22, 0, 0)])) (F0 m 182 ls []) := by
            intro H locs hG hS hf1294 ls hl
            obtain ⟨v1433, h_v1433, e_v1433⟩ := tk_inc v16 1 (by decide) (by omega) (by omega)
            refine lv_iinc (v := v1433) (lv' := [(5, .int v1433), (0, .ref a0), (1, .int 3), (2, .int p2), (3, .int p3), (4, .int p4)]) hx hb dX3_joinMore_182 hl (k := 0) rfl e_v1433 (by decide) rfl (fun ls hl => ?_)
            refine lv_goto (tgt := 45) hx hb dX3_joinMore_185 (by decide) ?_
            exact ih v1433 _ _ (by omega) (by omega) (by omega) hG hS _ (lv_sub hl [0, 1, 2, 3, 4, 5] rfl)
          refine lv_if_ne (tgt := 182) hx hb dX3_joinMore_63 (by decide) (fun c9 => ?_) (fun c9 => ?_)
          · have hc1388 : ¬ (v1387.toInt = 0) := fun h9 => c9 ((fi_eq rfl (by decide)).mpr h9)
            exact hj1432 _ _ hG hS hf1294 _ (lv_sub hl [0, 1, 2, 3, 4, 5] rfl)
          · have hc1388 : v1387.toInt = 0 := (fi_eq rfl (by decide)).mp c9
            refine lv_aload_n hx hb dX3_joinMore_66 rfl (lv_at hl 1 rfl) ?_
            refine tk_get (ci := 3) (C := RX3) (T := TX3) (N := 5) (sp := (8, 20, 3, 0)) hx hb htl inX3 hown hK hG ht_a0 (by decide) tk_no rfl 0 (by decide) (htl _ mw_175) (fun _ h9 => h9) rfl dX3_joinMore_67 (fun v9 hf1434 hV9 => ?_)
            obtain ⟨rfl, ht_ld20⟩ := hV9
            have ht_ld20 : t (ld 20) = (3, 0, 0) := ht_ld20
            refine fx_top (v := .ref (ld 20)) rfl ?_
            refine tk_get (ci := 2) (C := RX2) (T := TX2) (N := 20) (sp := (1, 20, 10, 0)) hx hb htl inX2 hown hK hG ht_ld20 (by decide) tk_no rfl 10 (by decide) (htl _ mw_1463) (fun _ h9 => h9) rfl dX3_joinMore_70 (fun v9 hf1435 hV9 => ?_)
            obtain ⟨b1436, rfl, ht_b1436⟩ := hV9
            have ht_b1436 : t b1436 = (20, 10, 0) := ht_b1436
            refine lv_iload hx hb dX3_joinMore_73 (lv_at hl 0 rfl) ?_
            refine tk_iald hx hb hK hG ht_b1436 (by decide) (fun _ h => h) tk_no rfl (by omega) (by omega) dX3_joinMore_75 (fun v1437 _ _ => ?_)
            have hr_v1437 := tk_rng v1437
            refine lv_iload hx hb dX3_joinMore_76 (lv_at hl 5 rfl) ?_
            refine lv_icmp_gt (tgt := 182) hx hb dX3_joinMore_78 (by decide) (fun c9 => ?_) (fun c9 => ?_)
            · have hc1438 : p4.toInt < v1437.toInt := (fi_lt rfl rfl).mp c9
              exact hj1432 _ _ hG hS hf1294 _ (lv_sub hl [0, 1, 2, 3, 4, 5] rfl)
            · have hc1438 : ¬ (p4.toInt < v1437.toInt) := fun h9 => c9 ((fi_lt rfl rfl).mpr h9)
              refine lv_iload_n hx hb dX3_joinMore_81 rfl (lv_at hl 2 rfl) ?_
              refine lv_if_le (tgt := 118) hx hb dX3_joinMore_82 (by decide) (fun c9 => absurd c9 (by decide)) (fun _ => ?_)
              refine lv_aload_n hx hb dX3_joinMore_85 rfl (lv_at hl 1 rfl) ?_
              refine tk_get (ci := 3) (C := RX3) (T := TX3) (N := 5) (sp := (8, 20, 3, 0)) hx hb htl inX3 hown hK hG ht_a0 (by decide) tk_no rfl 0 (by decide) (htl _ mw_175) (fun _ h9 => h9) rfl dX3_joinMore_86 (fun v9 hf1439 hV9 => ?_)
              obtain ⟨rfl, ht_ld20⟩ := hV9
              have ht_ld20 : t (ld 20) = (3, 0, 0) := ht_ld20
              refine fx_top (v := .ref (ld 20)) rfl ?_
              refine tk_get (ci := 2) (C := RX2) (T := TX2) (N := 20) (sp := (1, 20, 10, 0)) hx hb htl inX2 hown hK hG ht_ld20 (by decide) tk_no rfl 9 (by decide) (htl _ mw_1464) (fun _ h9 => h9) rfl dX3_joinMore_89 (fun v9 hf1440 hV9 => ?_)
              obtain ⟨b1441, rfl, ht_b1441⟩ := hV9
              have ht_b1441 : t b1441 = (20, 10, 0) := ht_b1441
              refine lv_aload_n hx hb dX3_joinMore_92 rfl (lv_at hl 1 rfl) ?_
              refine tk_get (ci := 3) (C := RX3) (T := TX3) (N := 5) (sp := (6, 22, 4, 0)) hx hb htl inX3 hown hK hG ht_a0 (by decide) tk_no rfl 1 (by decide) (htl _ mw_173) (fun _ h9 => h9) rfl dX3_joinMore_93 (fun v9 hf1442 hV9 => ?_)
              obtain ⟨b1443, rfl, ht_b1443⟩ := hV9
              have ht_b1443 : t b1443 = (22, 4, 0) := ht_b1443
              refine lv_iload_n hx hb dX3_joinMore_96 rfl (lv_at hl 2 rfl) ?_
              refine lv_iconst (v := 1) hx hb dX3_joinMore_97 (by decide) ?_
              refine lv_isub hx hb dX3_joinMore_98 ?_
              refine fx_ti (v := 2) (by decide) ?_
              refine tk_iald hx hb hK hG ht_b1443 (by decide) (fun _ h => h) tk_no (I := 2) (by decide) (by decide) (by decide) dX3_joinMore_99 (fun v1444 hE9 _ => ?_)
              have he_v1444 : 0 ≤ v1444.toInt ∧ v1444.toInt ≤ 9 := hE9
              refine tk_iald hx hb hK hG ht_b1441 (by decide) (fun _ h => h) tk_no rfl (by omega) (by omega) dX3_joinMore_100 (fun v1445 _ _ => ?_)
              have hr_v1445 := tk_rng v1445
              refine lv_aload_n hx hb dX3_joinMore_101 rfl (lv_at hl 1 rfl) ?_
              refine tk_get (ci := 3) (C := RX3) (T := TX3) (N := 5) (sp := (8, 20, 3, 0)) hx hb htl inX3 hown hK hG ht_a0 (by decide) tk_no rfl 0 (by decide) (htl _ mw_175) (fun _ h9 => h9) rfl dX3_joinMore_102 (fun v9 hf1446 hV9 => ?_)
              obtain ⟨rfl, ht_ld20⟩ := hV9
              have ht_ld20 : t (ld 20) = (3, 0, 0) := ht_ld20
              refine fx_top (v := .ref (ld 20)) rfl ?_
              refine tk_get (ci := 2) (C := RX2) (T := TX2) (N := 20) (sp := (1, 20, 10, 0)) hx hb htl inX2 hown hK hG ht_ld20 (by decide) tk_no rfl 9 (by decide) (htl _ mw_1464) (fun _ h9 => h9) rfl dX3_joinMore_105 (fun v9 hf1447 hV9 => ?_)
              obtain ⟨b1448, rfl, ht_b1448⟩ := hV9
              have ht_b1448 : t b1448 = (20, 10, 0) := ht_b1448
              refine lv_iload hx hb dX3_joinMore_108 (lv_at hl 0 rfl) ?_
              refine tk_iald hx hb hK hG ht_b1448 (by decide) (fun _ h => h) tk_no rfl (by omega) (by omega) dX3_joinMore_110 (fun v1449 _ _ => ?_)
              have hr_v1449 := tk_rng v1449
              have hj1453 : ∀ (v1452 : Int32), 0 ≤ v1452.toInt → v1452.toInt ≤ 1 → ∀ ls : Array Slot, lv_has ls 8 [(5, .int v16), (0, .ref a0), (1, .int 3), (2, .int p2), (3, .int p3), (4, .int p4)] → W p l e ({ frames := 5, cells := 0, slots := 0, locals := 280 }) s m args below meth c H locs 0 0 (MQ below (tv D cy ld t [] (fun H => True) (tk_w t [(4, 0, 0), (20, 0, 0), (22, 0, 0)])) args s 0 0 (tk_w t [(4, 0, 0), (20, 0, 0), (22, 0, 0)])) (F0 m 119 ls [.int v1452]) := by
                intro v1452 hq0_j1453 hq1_j1453 ls hl
                refine lv_istore (lv' := [(6, .int v1452), (5, .int v16), (0, .ref a0), (1, .int 3), (2, .int p2), (3, .int p3), (4, .int p4)]) hx hb dX3_joinMore_119 hl (by decide) rfl (fun ls hl => ?_)
                refine lv_aload_n hx hb dX3_joinMore_121 rfl (lv_at hl 2 rfl) ?_
                refine tk_get (ci := 3) (C := RX3) (T := TX3) (N := 5) (sp := (6, 22, 4, 0)) hx hb htl inX3 hown hK hG ht_a0 (by decide) tk_no rfl 1 (by decide) (htl _ mw_173) (fun _ h9 => h9) rfl dX3_joinMore_122 (fun v9 hf1454 hV9 => ?_)
                obtain ⟨b1455, rfl, ht_b1455⟩ := hV9
                have ht_b1455 : t b1455 = (22, 4, 0) := ht_b1455
                refine lv_iload_n hx hb dX3_joinMore_125 rfl (lv_at hl 3 rfl) ?_
                refine lv_iload hx hb dX3_joinMore_126 (lv_at hl 1 rfl) ?_
                refine tk_iast hx hb hK hG hS ht_b1455 (by decide) (fun _ => Iff.rfl) tk_no (I := 3) (by decide) (by decide) (by decide) (show 0 ≤ (v16 : Int32).toInt ∧ (v16 : Int32).toInt ≤ 9 from ⟨by omega, by omega⟩) (tk_w.of ht_b1455 (by decide) (List.mem_of_getElem? (i := 2) rfl) (Nat.le_refl _) (Nat.le_refl _)) dX3_joinMore_128 (fun H locs hG hS hq9 => ?_)
                have hf1294 := hf1294.kept (hq9 _ (tk_ne ht_ld20 ht_b1455 (Or.inl (by decide))))
                refine lv_iload_n hx hb dX3_joinMore_129 rfl (lv_at hl 5 rfl) ?_
                refine lv_aload_n hx hb dX3_joinMore_130 rfl (lv_at hl 2 rfl) ?_
                refine tk_get (ci := 3) (C := RX3) (T := TX3) (N := 5) (sp := (8, 20, 3, 0)) hx hb htl inX3 hown hK hG ht_a0 (by decide) tk_no rfl 0 (by decide) (htl _ mw_175) (fun _ h9 => h9) rfl dX3_joinMore_131 (fun v9 hf1457 hV9 => ?_)
                obtain ⟨rfl, ht_ld20⟩ := hV9
                have ht_ld20 : t (ld 20) = (3, 0, 0) := ht_ld20
                refine fx_top (v := .ref (ld 20)) rfl ?_
                refine tk_get (ci := 2) (C := RX2) (T := TX2) (N := 20) (sp := (1, 20, 10, 0)) hx hb htl inX2 hown hK hG ht_ld20 (by decide) tk_no rfl 8 (by decide) (htl _ mw_1465) (fun _ h9 => h9) rfl dX3_joinMore_134 (fun v9 hf1458 hV9 => ?_)
                obtain ⟨b1459, rfl, ht_b1459⟩ := hV9
                have ht_b1459 : t b1459 = (20, 10, 0) := ht_b1459
                refine lv_iload hx hb dX3_joinMore_137 (lv_at hl 1 rfl) ?_
                refine tk_iald hx hb hK hG ht_b1459 (by decide) (fun _ h => h) tk_no rfl (by omega) (by omega) dX3_joinMore_139 (fun v1460 _ _ => ?_)
                have hr_v1460 := tk_rng v1460
                refine lv_iadd hx hb dX3_joinMore_140 ?_
                obtain ⟨v1461, hm_v1461⟩ : ∃ z : Int32, p3 + v1460 = z := ⟨_, rfl⟩
                refine fx_ti hm_v1461 ?_
                refine lv_iload hx hb dX3_joinMore_141 (lv_at hl 0 rfl) ?_
                have hj1465 : ∀ (v1464 : Int32), v1464.toInt ≤ 3 → 0 ≤ (-1) * v1452.toInt + v1464.toInt → ∀ ls : Array Slot, lv_has ls 8 [(5, .int v16), (0, .ref a0), (1, .int 3), (2, .int p2), (3, .int p3), (4, .int p4)] → W p l e ({ frames := 5, cells := 0, slots := 0, locals := 280 }) s m args below meth c H locs 0 0 (MQ below (tv D cy ld t [] (fun H => True) (tk_w t [(4, 0, 0), (20, 0, 0), (22, 0, 0)])) args s 0 0 (tk_w t [(4, 0, 0), (20, 0, 0), (22, 0, 0)])) (F0 m 151 ls [.int v1464, .int v1461]) := by
                  intro v1464 hq0_j1465 hq1_j1465 ls hl
                  refine lv_iadd hx hb dX3_joinMore_151 ?_
                  obtain ⟨v1466, hm_v1466⟩ : ∃ z : Int32, v1461 + v1464 = z := ⟨_, rfl⟩
                  refine fx_ti hm_v1466 ?_
                  refine lv_istore (lv' := [(7, .int v1466), (5, .int v16), (0, .ref a0), (1, .int 3), (2, .int p2), (3, .int p3), (4, .int p4)]) hx hb dX3_joinMore_152 hl (by decide) rfl (fun ls hl => ?_)
                  refine lv_aload_n hx hb dX3_joinMore_154 rfl (lv_at hl 2 rfl) ?_
                  refine lv_iload_n hx hb dX3_joinMore_155 rfl (lv_at hl 3 rfl) ?_
                  refine lv_iconst (v := 1) hx hb dX3_joinMore_156 (by decide) ?_
                  refine lv_iadd hx hb dX3_joinMore_157 ?_
                  refine fx_ti (v := 4) (by decide) ?_
                  refine lv_iload_n hx hb dX3_joinMore_158 rfl (lv_at hl 4 rfl) ?_
                  refine lv_iconst (v := 1) hx hb dX3_joinMore_159 (by decide) ?_
                  refine lv_iload hx hb dX3_joinMore_160 (lv_at hl 1 rfl) ?_
                  refine lv_ishl hx hb dX3_joinMore_162 ?_
                  refine tk_say (P := fun z => 1 ≤ z.toInt ∧ z.toInt ≤ 1024) (tk_shl1 v16 (by omega) (by omega)) (fun v1467 h_v1467 => ?_)
                  refine lv_ior hx hb dX3_joinMore_163 ?_
                  refine tk_any (fun v1468 => ?_)
                  refine lv_iload hx hb dX3_joinMore_164 (lv_at hl 0 rfl) ?_
                  refine lv_iload hx hb dX3_joinMore_166 (lv_at hl 6 rfl) ?_
                  refine lv_aload_n hx hb dX3_joinMore_168 rfl (lv_at hl 2 rfl) ?_
                  refine tk_get (ci := 3) (C := RX3) (T := TX3) (N := 5) (sp := (8, 20, 3, 0)) hx hb htl inX3 hown hK hG ht_a0 (by decide) tk_no rfl 0 (by decide) (htl _ mw_175) (fun _ h9 => h9) rfl dX3_joinMore_169 (fun v9 hf1469 hV9 => ?_)
                  obtain ⟨rfl, ht_ld20⟩ := hV9
                  have ht_ld20 : t (ld 20) = (3, 0, 0) := ht_ld20
                  refine fx_top (v := .ref (ld 20)) rfl ?_
                  refine tk_get (ci := 2) (C := RX2) (T := TX2) (N := 20) (sp := (1, 20, 10, 0)) hx hb htl inX2 hown hK hG ht_ld20 (by decide) tk_no rfl 10 (by decide) (htl _ mw_1463) (fun _ h9 => h9) rfl dX3_joinMore_172 (fun v9 hf1470 hV9 => ?_)
                  obtain ⟨b1471, rfl, ht_b1471⟩ := hV9
                  have ht_b1471 : t b1471 = (20, 10, 0) := ht_b1471
                  refine lv_iload hx hb dX3_joinMore_175 (lv_at hl 1 rfl) ?_
                  refine tk_iald hx hb hK hG ht_b1471 (by decide) (fun _ h => h) tk_no rfl (by omega) (by omega) dX3_joinMore_177 (fun v1472 _ _ => ?_)
                  have hr_v1472 := tk_rng v1472
                  refine lv_isub hx hb dX3_joinMore_178 ?_
                  obtain ⟨v1473, hm_v1473⟩ : ∃ z : Int32, p4 - v1472 = z := ⟨_, rfl⟩
                  refine fx_ti hm_v1473 ?_
                  have hk_4 : (4 : Int32).toInt = 4 := by decide
                  refine tk_Vv (As := [.int 4, .int v1468, .int v1466, .int v1473]) (rest := []) (ci := 3) ⟨hx, hb, hml, hown, hts⟩ hK hG hZ hS (k_X3_joinMore_4 l D cy ld t a0 v1468 v1466 v1473 ht_a0) trivial ⟨callB_of 4 hts (wl_in mw_1460) rfl rfl rfl (htl _ mw_48) (htl _ mw_1457) hd_yX3_joinMore ⟨(Nat.le_of_ble_eq_true rfl), (Nat.le_of_ble_eq_true rfl)⟩, htl _ mw_1458, htl _ mw_1459⟩ ht_a0 (by decide) tk_no rfl (tk_w.pick [0, 1] rfl) rfl hl.1 rfl (Nat.le_of_ble_eq_true rfl) dX3_joinMore_179 ⟨(Nat.le_of_ble_eq_true rfl), (Nat.le_of_ble_eq_true rfl)⟩ (fun H locs hpo hG hS hq9 => ?_)
                  have hf1294 := hf1294.call hq9 (tk_w.no ht_ld20 (by decide))
                  exact hj1432 _ _ hG hS hf1294 _ (lv_sub hl [1, 2, 3, 4, 5, 6] rfl)
                refine lv_if_eq (tgt := 150) hx hb dX3_joinMore_143 (by decide) (fun c9 => ?_) (fun c9 => ?_)
                · have hc1462 : v1452.toInt = 0 := (fi_eq rfl (by decide)).mp c9
                  refine lv_iconst (v := 0) hx hb dX3_joinMore_150 (by decide) ?_
                  have hk_0 : (0 : Int32).toInt = 0 := by decide
                  exact hj1465 0 (by omega) (by omega) _ (lv_sub hl [1, 2, 3, 4, 5, 6] rfl)
                · have hc1462 : ¬ (v1452.toInt = 0) := fun h9 => c9 ((fi_eq rfl (by decide)).mpr h9)
                  refine lv_iconst (v := 3) hx hb dX3_joinMore_146 (by decide) ?_
                  refine lv_goto (tgt := 151) hx hb dX3_joinMore_147 (by decide) ?_
                  have hk_3 : (3 : Int32).toInt = 3 := by decide
                  exact hj1465 3 (by omega) (by omega) _ (lv_sub hl [1, 2, 3, 4, 5, 6] rfl)
              refine lv_icmp_ne (tgt := 118) hx hb dX3_joinMore_111 (by decide) (fun c9 => ?_) (fun c9 => ?_)
              · have hc1450 : ¬ (v1445.toInt = v1449.toInt) := fun h9 => c9 ((fi_eq rfl rfl).mpr h9)
                refine lv_iconst (v := 0) hx hb dX3_joinMore_118 (by decide) ?_
                have hk_0 : (0 : Int32).toInt = 0 := by decide
                exact hj1453 0 (by omega) (by omega) _ (lv_sub hl [0, 1, 2, 3, 4, 5] rfl)
              · have hc1450 : v1445.toInt = v1449.toInt := (fi_eq rfl rfl).mp c9
                refine lv_iconst (v := 1) hx hb dX3_joinMore_114 (by decide) ?_
                refine lv_goto (tgt := 119) hx hb dX3_joinMore_115 (by decide) ?_
                have hk_1 : (1 : Int32).toInt = 1 := by decide
                exact hj1453 1 (by omega) (by omega) _ (lv_sub hl [0, 1, 2, 3, 4, 5] rfl)
    have hk_0 : (0 : Int32).toInt = 0 := by decide
    exact hl1292 11 0 _ _ (by omega) (by omega) (by omega) hG hS _ (lv_sub hl [0, 1, 2, 3, 4, 5] rfl)
  refine lv_icmp_le (tgt := 36) hx hb dX3_joinMore_9 (by decide) (fun c9 => ?_) (fun c9 => ?_)
  · have hc3 : p3.toInt ≤ v2.toInt := (fi_le rfl rfl).mp c9
    exact hj15 _ _ hG hS _ (lv_sub hl [0, 1, 2, 3, 4] rfl)
  · have hc3 : ¬ (p3.toInt ≤ v2.toInt) := fun h9 => c9 ((fi_le rfl rfl).mpr h9)
    refine lv_aload_n hx hb dX3_joinMore_12 rfl (lv_at hl 0 rfl) ?_
    refine lv_iload_n hx hb dX3_joinMore_13 rfl (lv_at hl 3 rfl) ?_
    refine tk_put (ci := 3) (v := .int p3) (ty := .int) (C := RX3) (T := TX3) (N := 5) (sp := (0, (-2147483648), 2147483647, 0)) hx hb htl inX3 tyX3 tyX3_ok nmX3 hown hK hG hS ht_a0 (by decide) tk_no rfl 4 (by decide) (htl _ mw_1456) (fun _ h9 => h9) rfl (tyX3_ok 4 (by decide)) rfl rfl rfl (tk_Vi (tk_rng _).1 (tk_rng _).2) (fun _ h => h) (tk_w.of ht_a0 (by decide) (List.mem_of_getElem? (i := 0) rfl) (Nat.le_refl _) (Nat.le_refl _)) dX3_joinMore_14 (fun H locs hG hS hf1475 hq9 hj9 => ?_)
    refine lv_aload_n hx hb dX3_joinMore_17 rfl (lv_at hl 0 rfl) ?_
    refine lv_iload_n hx hb dX3_joinMore_18 rfl (lv_at hl 1 rfl) ?_
    refine tk_put (ci := 3) (v := .int 3) (ty := .int) (C := RX3) (T := TX3) (N := 5) (sp := (0, 0, 4, 0)) hx hb htl inX3 tyX3 tyX3_ok nmX3 hown hK hG hS ht_a0 (by decide) tk_no rfl 3 (by decide) (htl _ mw_1455) (fun _ h9 => h9) rfl (tyX3_ok 3 (by decide)) rfl rfl rfl (tk_Vi (by decide) (by decide)) (fun _ h => h) (tk_w.of ht_a0 (by decide) (List.mem_of_getElem? (i := 0) rfl) (Nat.le_refl _) (Nat.le_refl _)) dX3_joinMore_19 (fun H locs hG hS hf1477 hq9 hj9 => ?_)
    refine lv_aload_n hx hb dX3_joinMore_22 rfl (lv_at hl 0 rfl) ?_
    refine tk_get (ci := 3) (C := RX3) (T := TX3) (N := 5) (sp := (6, 22, 4, 0)) hx hb htl inX3 hown hK hG ht_a0 (by decide) tk_no rfl 1 (by decide) (htl _ mw_173) (fun _ h9 => h9) rfl dX3_joinMore_23 (fun v9 hf1479 hV9 => ?_)
    obtain ⟨b1480, rfl, ht_b1480⟩ := hV9
    have ht_b1480 : t b1480 = (22, 4, 0) := ht_b1480
    refine lv_iconst (v := 0) hx hb dX3_joinMore_26 (by decide) ?_
    refine lv_aload_n hx hb dX3_joinMore_27 rfl (lv_at hl 0 rfl) ?_
    refine tk_get (ci := 3) (C := RX3) (T := TX3) (N := 5) (sp := (6, 20, 4, 0)) hx hb htl inX3 hown hK hG ht_a0 (by decide) tk_no rfl 2 (by decide) (htl _ mw_174) (fun _ h9 => h9) rfl dX3_joinMore_28 (fun v9 hf1481 hV9 => ?_)
    obtain ⟨b1482, rfl, ht_b1482⟩ := hV9
    have ht_b1482 : t b1482 = (20, 4, 0) := ht_b1482
    refine lv_iconst (v := 0) hx hb dX3_joinMore_31 (by decide) ?_
    refine lv_iconst (v := 4) hx hb dX3_joinMore_32 (by decide) ?_
    refine tk_copy (SP := 0) (DP := 0) (NC := 4) hx hb (by rw [hml]; exact hl.1.symm) hown (htl _ mw_1461) (htl _ mw_655) (htl _ mw_656) (htl _ mw_657) hK hG hS ht_b1480 ht_b1482 (by decide) (by decide) (fun _ h => h) (fun _ => Iff.rfl) tk_no tk_no (by decide) (by decide) (by decide) (by decide) (by decide) (by decide) (by decide) (by decide) (fun _ _ _ _ _ => trivial) (tk_w.of ht_b1482 (by decide) (List.mem_of_getElem? (i := 1) rfl) (Nat.le_refl _) (Nat.le_refl _)) (Nat.le_of_ble_eq_true rfl) (Nat.le_of_ble_eq_true rfl) dX3_joinMore_33 (fun H locs hG hS hq9 => ?_)
    exact hj15 _ _ hG hS _ (lv_sub hl [0, 1, 2, 3, 4] rfl)
set_option maxHeartbeats 4000000 in
set_option maxRecDepth 100000 in
theorem k_X3_joinMore_2 (l : Launch) (D : va_G) (cy : Nat → ClassId) (ld : Nat → Nat) (t : tk_T) (a0 : Nat) (p2 : Int32) (p3 : Int32) (p4 : Int32) (ht_a0 : t a0 = (4, 0, 0)) : Met l yX3_joinMore (wl yX3_joinMore cX3_joinMore 8 none) ({ frames := 6, cells := 0, slots := 0, locals := 350 }) (tp D cy ld t [] [.ref a0, .int 2, .int p2, .int p3, .int p4] (fun H => True)) (tv D cy ld t [] (fun H => True) (tk_w t [(4, 0, 0), (20, 0, 0), (22, 0, 0)])) 0 0 (tk_w t [(4, 0, 0), (20, 0, 0), (22, 0, 0)]) := by
  refine tk_met (y := yX3_joinMore) (cc := cX3_joinMore) (maxL := 8) (ret := none) (av := [.ref a0, .int 2, .int p2, .int p3, .int p4]) _ _ (by decide) (Nat.le_of_ble_eq_true rfl) ?_
  intro p e s m args below meth c hx hb hr hml hts htl hown hlocks hK H locs hH hG hS hB hZ ls hl
  have hown : s.vm.findClass RX3 = some m.cls := hown
  have hl : lv_has ls 8 [(0, .ref a0), (1, .int 2), (2, .int p2), (3, .int p3), (4, .int p4)] := hl
  have hr_p2 := tk_rng p2
  have hr_p3 := tk_rng p3
  have hr_p4 := tk_rng p4
  refine lv_iload_n hx hb dX3_joinMore_0 rfl (lv_at hl 1 rfl) ?_
  refine lv_if_le (tgt := 36) hx hb dX3_joinMore_1 (by decide) (fun c9 => absurd c9 (by decide)) (fun _ => ?_)
  refine lv_iload_n hx hb dX3_joinMore_4 rfl (lv_at hl 3 rfl) ?_
  refine lv_aload_n hx hb dX3_joinMore_5 rfl (lv_at hl 0 rfl) ?_
  refine tk_get (ci := 3) (C := RX3) (T := TX3) (N := 5) (sp := (0, (-2147483648), 2147483647, 0)) hx hb htl inX3 hown hK hG ht_a0 (by decide) tk_no rfl 4 (by decide) (htl _ mw_1456) (fun _ h9 => h9) rfl dX3_joinMore_6 (fun v9 hf1 hV9 => ?_)
  obtain ⟨v2, rfl, ha_v2, hb_v2⟩ := hV9
  have hj15 : ∀ (H : Heap) (locs : List Loc), tk_G D cy ld t [] H → va_S (tk_w t [(4, 0, 0), (20, 0, 0), (22, 0, 0)]) s.heap H locs → ∀ ls : Array Slot, lv_has ls 8 [(0, .ref a0), (1, .int 2), (2, .int p2), (3, .int p3), (4, .int p4)] → W p l e ({ frames := 6, cells := 0, slots := 0, locals := 350 }) s m args below meth c H locs 0 0 (MQ below (tv D cy ld t [] (fun H => True) (tk_w t [(4, 0, 0), (20, 0, 0), (22, 0, 0)])) args s 0 0 (tk_w t [(4, 0, 0), (20, 0, 0), (22, 0, 0)])) (F0 m 36 ls []) := by
    intro H locs hG hS ls hl
    refine lv_iload_n hx hb dX3_joinMore_36 rfl (lv_at hl 1 rfl) ?_
    refine lv_iconst (v := 4) hx hb dX3_joinMore_37 (by decide) ?_
    refine lv_icmp_lt (tgt := 42) hx hb dX3_joinMore_38 (by decide) (fun _ => ?_) (fun c9 => absurd (by decide) c9)
    refine lv_iconst (v := 0) hx hb dX3_joinMore_42 (by decide) ?_
    refine lv_istore (lv' := [(5, .int 0), (0, .ref a0), (1, .int 2), (2, .int p2), (3, .int p3), (4, .int p4)]) hx hb dX3_joinMore_43 hl (by decide) rfl (fun ls hl => ?_)
    have hl1292 : ∀ (N : Nat) (v16 : Int32) (H : Heap) (locs : List Loc), v16.toInt ≤ 10 → 0 ≤ v16.toInt → (-1) * v16.toInt + 10 < (N : Int) → tk_G D cy ld t [] H → va_S (tk_w t [(4, 0, 0), (20, 0, 0), (22, 0, 0)]) s.heap H locs → ∀ ls : Array Slot, lv_has ls 8 [(5, .int v16), (0, .ref a0), (1, .int 2), (2, .int p2), (3, .int p3), (4, .int p4)] → W p l e ({ frames := 6, cells := 0, slots := 0, locals := 350 }) s m args below meth c H locs 0 0 (MQ below (tv D cy ld t [] (fun H => True) (tk_w t [(4, 0, 0), (20, 0, 0), (22, 0, 0)])) args s 0 0 (tk_w t [(4, 0, 0), (20, 0, 0), (22, 0, 0)])) (F0 m 45 ls []) := by
      intro N
      induction N with
      | zero => intro v16 H locs hq0_l1292 hq1_l1292 hm_l1292 hG hS ls hl; exfalso; omega
      | succ N ih =>
        intro v16 H locs hq0_l1292 hq1_l1292 hm_l1292 hG hS ls hl
        refine lv_iload hx hb dX3_joinMore_45 (lv_at hl 0 rfl) ?_
        refine lv_aload_n hx hb dX3_joinMore_47 rfl (lv_at hl 1 rfl) ?_
        refine tk_get (ci := 3) (C := RX3) (T := TX3) (N := 5) (sp := (8, 20, 3, 0)) hx hb htl inX3 hown hK hG ht_a0 (by decide) tk_no rfl 0 (by decide) (htl _ mw_175) (fun _ h9 => h9) rfl dX3_joinMore_48 (fun v9 hf1293 hV9 => ?_)
        obtain ⟨rfl, ht_ld20⟩ := hV9
        have ht_ld20 : t (ld 20) = (3, 0, 0) := ht_ld20
        refine fx_top (v := .ref (ld 20)) rfl ?_
        refine tk_get (ci := 2) (C := RX2) (T := TX2) (N := 20) (sp := (0, 0, 10, 0)) hx hb htl inX2 hown hK hG ht_ld20 (by decide) tk_no rfl 7 (by decide) (htl _ mw_1462) (fun _ h9 => h9) rfl dX3_joinMore_51 (fun v9 hf1294 hV9 => ?_)
        obtain ⟨v1295, rfl, ha_v1295, hb_v1295⟩ := hV9
        refine lv_icmp_ge (tgt := 188) hx hb dX3_joinMore_54 (by decide) (fun c9 => ?_) (fun c9 => ?_)
        · have hc1296 : v1295.toInt ≤ v16.toInt := (fi_le rfl rfl).mp c9
          exact tk_vret hx hb hr hlocks trivial hG hS dX3_joinMore_188
        · have hc1296 : ¬ (v1295.toInt ≤ v16.toInt) := fun h9 => c9 ((fi_le rfl rfl).mpr h9)
          refine lv_iload_n hx hb dX3_joinMore_57 rfl (lv_at hl 3 rfl) ?_
          refine lv_iload hx hb dX3_joinMore_58 (lv_at hl 0 rfl) ?_
          refine lv_ishr hx hb dX3_joinMore_60 ?_
          refine tk_any (fun v1386 => ?_)
          refine lv_iconst (v := 1) hx hb dX3_joinMore_61 (by decide) ?_
          refine lv_iand hx hb dX3_joinMore_62 ?_
          refine tk_say (P := fun z => 0 ≤ z.toInt ∧ z.toInt ≤ 1) (tk_and v1386 1 (by decide) (by decide)) (fun v1387 h_v1387 => ?_)
          have hj1432 : ∀ (H : Heap) (locs : List Loc), tk_G D cy ld t [] H → va_S (tk_w t [(4, 0, 0), (20, 0, 0), (22, 0, 0)]) s.heap H locs → tk_f D H (ld 20) 2 7 (.int v1295) → ∀ ls : Array Slot, lv_has ls 8 [(5, .int v16), (0, .ref a0), (1, .int 2), (2, .int p2), (3, .int p3), (4, .int p4)] → W p l e ({ frames := 6, cells := 0, slots := 0, locals := 350 }) s m args below meth c H locs 0 0 (MQ below (tv D cy ld t [] (fun H => True) (tk_w t [(4, 0, 0), (20, 0, 0), (22, 0, 0)])) args s 0 0 (tk_w t [(4, 0, 0), (20, 0, 0), (22, 0, 0)])) (F0 m 182 ls []) := by
            intro H locs hG hS hf1294 ls hl
            obtain ⟨v1433, h_v1433, e_v1433⟩ := tk_inc v16 1 (by decide) (by omega) (by omega)
            refine lv_iinc (v := v1433) (lv' := [(5, .int v1433), (0, .ref a0), (1, .int 2), (2, .int p2), (3, .int p3), (4, .int p4)]) hx hb dX3_joinMore_182 hl (k := 0) rfl e_v1433 (by decide) rfl (fun ls hl => ?_)
            refine lv_goto (tgt := 45) hx hb dX3_joinMore_185 (by decide) ?_
            exact ih v1433 _ _ (by omega) (by omega) (by omega) hG hS _ (lv_sub hl [0, 1, 2, 3, 4, 5] rfl)
          refine lv_if_ne (tgt := 182) hx hb dX3_joinMore_63 (by decide) (fun c9 => ?_) (fun c9 => ?_)
          · have hc1388 : ¬ (v1387.toInt = 0) := fun h9 => c9 ((fi_eq rfl (by decide)).mpr h9)
            exact hj1432 _ _ hG hS hf1294 _ (lv_sub hl [0, 1, 2, 3, 4, 5] rfl)
          · have hc1388 : v1387.toInt = 0 := (fi_eq rfl (by decide)).mp c9
            refine lv_aload_n hx hb dX3_joinMore_66 rfl (lv_at hl 1 rfl) ?_
            refine tk_get (ci := 3) (C := RX3) (T := TX3) (N := 5) (sp := (8, 20, 3, 0)) hx hb htl inX3 hown hK hG ht_a0 (by decide) tk_no rfl 0 (by decide) (htl _ mw_175) (fun _ h9 => h9) rfl dX3_joinMore_67 (fun v9 hf1434 hV9 => ?_)
            obtain ⟨rfl, ht_ld20⟩ := hV9
            have ht_ld20 : t (ld 20) = (3, 0, 0) := ht_ld20
            refine fx_top (v := .ref (ld 20)) rfl ?_
            refine tk_get (ci := 2) (C := RX2) (T := TX2) (N := 20) (sp := (1, 20, 10, 0)) hx hb htl inX2 hown hK hG ht_ld20 (by decide) tk_no rfl 10 (by decide) (htl _ mw_1463) (fun _ h9 => h9) rfl dX3_joinMore_70 (fun v9 hf1435 hV9 => ?_)
            obtain ⟨b1436, rfl, ht_b1436⟩ := hV9
            have ht_b1436 : t b1436 = (20, 10, 0) := ht_b1436
            refine lv_iload hx hb dX3_joinMore_73 (lv_at hl 0 rfl) ?_
            refine tk_iald hx hb hK hG ht_b1436 (by decide) (fun _ h => h) tk_no rfl (by omega) (by omega) dX3_joinMore_75 (fun v1437 _ _ => ?_)
            have hr_v1437 := tk_rng v1437
            refine lv_iload hx hb dX3_joinMore_76 (lv_at hl 5 rfl) ?_
            refine lv_icmp_gt (tgt := 182) hx hb dX3_joinMore_78 (by decide) (fun c9 => ?_) (fun c9 => ?_)
            · have hc1438 : p4.toInt < v1437.toInt := (fi_lt rfl rfl).mp c9
              exact hj1432 _ _ hG hS hf1294 _ (lv_sub hl [0, 1, 2, 3, 4, 5] rfl)
            · have hc1438 : ¬ (p4.toInt < v1437.toInt) := fun h9 => c9 ((fi_lt rfl rfl).mpr h9)
              refine lv_iload_n hx hb dX3_joinMore_81 rfl (lv_at hl 2 rfl) ?_
              refine lv_if_le (tgt := 118) hx hb dX3_joinMore_82 (by decide) (fun c9 => absurd c9 (by decide)) (fun _ => ?_)
              refine lv_aload_n hx hb dX3_joinMore_85 rfl (lv_at hl 1 rfl) ?_
              refine tk_get (ci := 3) (C := RX3) (T := TX3) (N := 5) (sp := (8, 20, 3, 0)) hx hb htl inX3 hown hK hG ht_a0 (by decide) tk_no rfl 0 (by decide) (htl _ mw_175) (fun _ h9 => h9) rfl dX3_joinMore_86 (fun v9 hf1439 hV9 => ?_)
              obtain ⟨rfl, ht_ld20⟩ := hV9
              have ht_ld20 : t (ld 20) = (3, 0, 0) := ht_ld20
              refine fx_top (v := .ref (ld 20)) rfl ?_
              refine tk_get (ci := 2) (C := RX2) (T := TX2) (N := 20) (sp := (1, 20, 10, 0)) hx hb htl inX2 hown hK hG ht_ld20 (by decide) tk_no rfl 9 (by decide) (htl _ mw_1464) (fun _ h9 => h9) rfl dX3_joinMore_89 (fun v9 hf1440 hV9 => ?_)
              obtain ⟨b1441, rfl, ht_b1441⟩ := hV9
              have ht_b1441 : t b1441 = (20, 10, 0) := ht_b1441
              refine lv_aload_n hx hb dX3_joinMore_92 rfl (lv_at hl 1 rfl) ?_
              refine tk_get (ci := 3) (C := RX3) (T := TX3) (N := 5) (sp := (6, 22, 4, 0)) hx hb htl inX3 hown hK hG ht_a0 (by decide) tk_no rfl 1 (by decide) (htl _ mw_173) (fun _ h9 => h9) rfl dX3_joinMore_93 (fun v9 hf1442 hV9 => ?_)
              obtain ⟨b1443, rfl, ht_b1443⟩ := hV9
              have ht_b1443 : t b1443 = (22, 4, 0) := ht_b1443
              refine lv_iload_n hx hb dX3_joinMore_96 rfl (lv_at hl 2 rfl) ?_
              refine lv_iconst (v := 1) hx hb dX3_joinMore_97 (by decide) ?_
              refine lv_isub hx hb dX3_joinMore_98 ?_
              refine fx_ti (v := 1) (by decide) ?_
              refine tk_iald hx hb hK hG ht_b1443 (by decide) (fun _ h => h) tk_no (I := 1) (by decide) (by decide) (by decide) dX3_joinMore_99 (fun v1444 hE9 _ => ?_)
              have he_v1444 : 0 ≤ v1444.toInt ∧ v1444.toInt ≤ 9 := hE9
              refine tk_iald hx hb hK hG ht_b1441 (by decide) (fun _ h => h) tk_no rfl (by omega) (by omega) dX3_joinMore_100 (fun v1445 _ _ => ?_)
              have hr_v1445 := tk_rng v1445
              refine lv_aload_n hx hb dX3_joinMore_101 rfl (lv_at hl 1 rfl) ?_
              refine tk_get (ci := 3) (C := RX3) (T := TX3) (N := 5) (sp := (8, 20, 3, 0)) hx hb htl inX3 hown hK hG ht_a0 (by decide) tk_no rfl 0 (by decide) (htl _ mw_175) (fun _ h9 => h9) rfl dX3_joinMore_102 (fun v9 hf1446 hV9 => ?_)
              obtain ⟨rfl, ht_ld20⟩ := hV9
              have ht_ld20 : t (ld 20) = (3, 0, 0) := ht_ld20
              refine fx_top (v := .ref (ld 20)) rfl ?_
              refine tk_get (ci := 2) (C := RX2) (T := TX2) (N := 20) (sp := (1, 20, 10, 0)) hx hb htl inX2 hown hK hG ht_ld20 (by decide) tk_no rfl 9 (by decide) (htl _ mw_1464) (fun _ h9 => h9) rfl dX3_joinMore_105 (fun v9 hf1447 hV9 => ?_)
              obtain ⟨b1448, rfl, ht_b1448⟩ := hV9
              have ht_b1448 : t b1448 = (20, 10, 0) := ht_b1448
              refine lv_iload hx hb dX3_joinMore_108 (lv_at hl 0 rfl) ?_
              refine tk_iald hx hb hK hG ht_b1448 (by decide) (fun _ h => h) tk_no rfl (by omega) (by omega) dX3_joinMore_110 (fun v1449 _ _ => ?_)
              have hr_v1449 := tk_rng v1449
              have hj1453 : ∀ (v1452 : Int32), 0 ≤ v1452.toInt → v1452.toInt ≤ 1 → ∀ ls : Array Slot, lv_has ls 8 [(5, .int v16), (0, .ref a0), (1, .int 2), (2, .int p2), (3, .int p3), (4, .int p4)] → W p l e ({ frames := 6, cells := 0, slots := 0, locals := 350 }) s m args below meth c H locs 0 0 (MQ below (tv D cy ld t [] (fun H => True) (tk_w t [(4, 0, 0), (20, 0, 0), (22, 0, 0)])) args s 0 0 (tk_w t [(4, 0, 0), (20, 0, 0), (22, 0, 0)])) (F0 m 119 ls [.int v1452]) := by
                intro v1452 hq0_j1453 hq1_j1453 ls hl
                refine lv_istore (lv' := [(6, .int v1452), (5, .int v16), (0, .ref a0), (1, .int 2), (2, .int p2), (3, .int p3), (4, .int p4)]) hx hb dX3_joinMore_119 hl (by decide) rfl (fun ls hl => ?_)
                refine lv_aload_n hx hb dX3_joinMore_121 rfl (lv_at hl 2 rfl) ?_
                refine tk_get (ci := 3) (C := RX3) (T := TX3) (N := 5) (sp := (6, 22, 4, 0)) hx hb htl inX3 hown hK hG ht_a0 (by decide) tk_no rfl 1 (by decide) (htl _ mw_173) (fun _ h9 => h9) rfl dX3_joinMore_122 (fun v9 hf1454 hV9 => ?_)
                obtain ⟨b1455, rfl, ht_b1455⟩ := hV9
                have ht_b1455 : t b1455 = (22, 4, 0) := ht_b1455
                refine lv_iload_n hx hb dX3_joinMore_125 rfl (lv_at hl 3 rfl) ?_
                refine lv_iload hx hb dX3_joinMore_126 (lv_at hl 1 rfl) ?_
                refine tk_iast hx hb hK hG hS ht_b1455 (by decide) (fun _ => Iff.rfl) tk_no (I := 2) (by decide) (by decide) (by decide) (show 0 ≤ (v16 : Int32).toInt ∧ (v16 : Int32).toInt ≤ 9 from ⟨by omega, by omega⟩) (tk_w.of ht_b1455 (by decide) (List.mem_of_getElem? (i := 2) rfl) (Nat.le_refl _) (Nat.le_refl _)) dX3_joinMore_128 (fun H locs hG hS hq9 => ?_)
                have hf1294 := hf1294.kept (hq9 _ (tk_ne ht_ld20 ht_b1455 (Or.inl (by decide))))
                refine lv_iload_n hx hb dX3_joinMore_129 rfl (lv_at hl 5 rfl) ?_
                refine lv_aload_n hx hb dX3_joinMore_130 rfl (lv_at hl 2 rfl) ?_
                refine tk_get (ci := 3) (C := RX3) (T := TX3) (N := 5) (sp := (8, 20, 3, 0)) hx hb htl inX3 hown hK hG ht_a0 (by decide) tk_no rfl 0 (by decide) (htl _ mw_175) (fun _ h9 => h9) rfl dX3_joinMore_131 (fun v9 hf1457 hV9 => ?_)
                obtain ⟨rfl, ht_ld20⟩ := hV9
                have ht_ld20 : t (ld 20) = (3, 0, 0) := ht_ld20
                refine fx_top (v := .ref (ld 20)) rfl ?_
                refine tk_get (ci := 2) (C := RX2) (T := TX2) (N := 20) (sp := (1, 20, 10, 0)) hx hb htl inX2 hown hK hG ht_ld20 (by decide) tk_no rfl 8 (by decide) (htl _ mw_1465) (fun _ h9 => h9) rfl dX3_joinMore_134 (fun v9 hf1458 hV9 => ?_)
                obtain ⟨b1459, rfl, ht_b1459⟩ := hV9
                have ht_b1459 : t b1459 = (20, 10, 0) := ht_b1459
                refine lv_iload hx hb dX3_joinMore_137 (lv_at hl 1 rfl) ?_
                refine tk_iald hx hb hK hG ht_b1459 (by decide) (fun _ h => h) tk_no rfl (by omega) (by omega) dX3_joinMore_139 (fun v1460 _ _ => ?_)
                have hr_v1460 := tk_rng v1460
                refine lv_iadd hx hb dX3_joinMore_140 ?_
                obtain ⟨v1461, hm_v1461⟩ : ∃ z : Int32, p3 + v1460 = z := ⟨_, rfl⟩
                refine fx_ti hm_v1461 ?_
                refine lv_iload hx hb dX3_joinMore_141 (lv_at hl 0 rfl) ?_
                have hj1465 : ∀ (v1464 : Int32), v1464.toInt ≤ 3 → 0 ≤ (-1) * v1452.toInt + v1464.toInt → ∀ ls : Array Slot, lv_has ls 8 [(5, .int v16), (0, .ref a0), (1, .int 2), (2, .int p2), (3, .int p3), (4, .int p4)] → W p l e ({ frames := 6, cells := 0, slots := 0, locals := 350 }) s m args below meth c H locs 0 0 (MQ below (tv D cy ld t [] (fun H => True) (tk_w t [(4, 0, 0), (20, 0, 0), (22, 0, 0)])) args s 0 0 (tk_w t [(4, 0, 0), (20, 0, 0), (22, 0, 0)])) (F0 m 151 ls [.int v1464, .int v1461]) := by
                  intro v1464 hq0_j1465 hq1_j1465 ls hl
                  refine lv_iadd hx hb dX3_joinMore_151 ?_
                  obtain ⟨v1466, hm_v1466⟩ : ∃ z : Int32, v1461 + v1464 = z := ⟨_, rfl⟩
                  refine fx_ti hm_v1466 ?_
                  refine lv_istore (lv' := [(7, .int v1466), (5, .int v16), (0, .ref a0), (1, .int 2), (2, .int p2), (3, .int p3), (4, .int p4)]) hx hb dX3_joinMore_152 hl (by decide) rfl (fun ls hl => ?_)
                  refine lv_aload_n hx hb dX3_joinMore_154 rfl (lv_at hl 2 rfl) ?_
                  refine lv_iload_n hx hb dX3_joinMore_155 rfl (lv_at hl 3 rfl) ?_
                  refine lv_iconst (v := 1) hx hb dX3_joinMore_156 (by decide) ?_
                  refine lv_iadd hx hb dX3_joinMore_157 ?_
                  refine fx_ti (v := 3) (by decide) ?_
                  refine lv_iload_n hx hb dX3_joinMore_158 rfl (lv_at hl 4 rfl) ?_
                  refine lv_iconst (v := 1) hx hb dX3_joinMore_159 (by decide) ?_
                  refine lv_iload hx hb dX3_joinMore_160 (lv_at hl 1 rfl) ?_
                  refine lv_ishl hx hb dX3_joinMore_162 ?_
                  refine tk_say (P := fun z => 1 ≤ z.toInt ∧ z.toInt ≤ 1024) (tk_shl1 v16 (by omega) (by omega)) (fun v1467 h_v1467 => ?_)
                  refine lv_ior hx hb dX3_joinMore_163 ?_
                  refine tk_any (fun v1468 => ?_)
                  refine lv_iload hx hb dX3_joinMore_164 (lv_at hl 0 rfl) ?_
                  refine lv_iload hx hb dX3_joinMore_166 (lv_at hl 6 rfl) ?_
                  refine lv_aload_n hx hb dX3_joinMore_168 rfl (lv_at hl 2 rfl) ?_
                  refine tk_get (ci := 3) (C := RX3) (T := TX3) (N := 5) (sp := (8, 20, 3, 0)) hx hb htl inX3 hown hK hG ht_a0 (by decide) tk_no rfl 0 (by decide) (htl _ mw_175) (fun _ h9 => h9) rfl dX3_joinMore_169 (fun v9 hf1469 hV9 => ?_)
                  obtain ⟨rfl, ht_ld20⟩ := hV9
                  have ht_ld20 : t (ld 20) = (3, 0, 0) := ht_ld20
                  refine fx_top (v := .ref (ld 20)) rfl ?_
                  refine tk_get (ci := 2) (C := RX2) (T := TX2) (N := 20) (sp := (1, 20, 10, 0)) hx hb htl inX2 hown hK hG ht_ld20 (by decide) tk_no rfl 10 (by decide) (htl _ mw_1463) (fun _ h9 => h9) rfl dX3_joinMore_172 (fun v9 hf1470 hV9 => ?_)
                  obtain ⟨b1471, rfl, ht_b1471⟩ := hV9
                  have ht_b1471 : t b1471 = (20, 10, 0) := ht_b1471
                  refine lv_iload hx hb dX3_joinMore_175 (lv_at hl 1 rfl) ?_
                  refine tk_iald hx hb hK hG ht_b1471 (by decide) (fun _ h => h) tk_no rfl (by omega) (by omega) dX3_joinMore_177 (fun v1472 _ _ => ?_)
                  have hr_v1472 := tk_rng v1472
                  refine lv_isub hx hb dX3_joinMore_178 ?_
                  obtain ⟨v1473, hm_v1473⟩ : ∃ z : Int32, p4 - v1472 = z := ⟨_, rfl⟩
                  refine fx_ti hm_v1473 ?_
                  have hk_3 : (3 : Int32).toInt = 3 := by decide
                  refine tk_Vv (As := [.int 3, .int v1468, .int v1466, .int v1473]) (rest := []) (ci := 3) ⟨hx, hb, hml, hown, hts⟩ hK hG hZ hS (k_X3_joinMore_3 l D cy ld t a0 v1468 v1466 v1473 ht_a0) trivial ⟨callB_of 4 hts (wl_in mw_1460) rfl rfl rfl (htl _ mw_48) (htl _ mw_1457) hd_yX3_joinMore ⟨(Nat.le_of_ble_eq_true rfl), (Nat.le_of_ble_eq_true rfl)⟩, htl _ mw_1458, htl _ mw_1459⟩ ht_a0 (by decide) tk_no rfl (tk_w.pick [0, 1, 2] rfl) rfl hl.1 rfl (Nat.le_of_ble_eq_true rfl) dX3_joinMore_179 ⟨(Nat.le_of_ble_eq_true rfl), (Nat.le_of_ble_eq_true rfl)⟩ (fun H locs hpo hG hS hq9 => ?_)
                  have hf1294 := hf1294.call hq9 (tk_w.no ht_ld20 (by decide))
                  exact hj1432 _ _ hG hS hf1294 _ (lv_sub hl [1, 2, 3, 4, 5, 6] rfl)
                refine lv_if_eq (tgt := 150) hx hb dX3_joinMore_143 (by decide) (fun c9 => ?_) (fun c9 => ?_)
                · have hc1462 : v1452.toInt = 0 := (fi_eq rfl (by decide)).mp c9
                  refine lv_iconst (v := 0) hx hb dX3_joinMore_150 (by decide) ?_
                  have hk_0 : (0 : Int32).toInt = 0 := by decide
                  exact hj1465 0 (by omega) (by omega) _ (lv_sub hl [1, 2, 3, 4, 5, 6] rfl)
                · have hc1462 : ¬ (v1452.toInt = 0) := fun h9 => c9 ((fi_eq rfl (by decide)).mpr h9)
                  refine lv_iconst (v := 3) hx hb dX3_joinMore_146 (by decide) ?_
                  refine lv_goto (tgt := 151) hx hb dX3_joinMore_147 (by decide) ?_
                  have hk_3 : (3 : Int32).toInt = 3 := by decide
                  exact hj1465 3 (by omega) (by omega) _ (lv_sub hl [1, 2, 3, 4, 5, 6] rfl)
              refine lv_icmp_ne (tgt := 118) hx hb dX3_joinMore_111 (by decide) (fun c9 => ?_) (fun c9 => ?_)
              · have hc1450 : ¬ (v1445.toInt = v1449.toInt) := fun h9 => c9 ((fi_eq rfl rfl).mpr h9)
                refine lv_iconst (v := 0) hx hb dX3_joinMore_118 (by decide) ?_
                have hk_0 : (0 : Int32).toInt = 0 := by decide
                exact hj1453 0 (by omega) (by omega) _ (lv_sub hl [0, 1, 2, 3, 4, 5] rfl)
              · have hc1450 : v1445.toInt = v1449.toInt := (fi_eq rfl rfl).mp c9
                refine lv_iconst (v := 1) hx hb dX3_joinMore_114 (by decide) ?_
                refine lv_goto (tgt := 119) hx hb dX3_joinMore_115 (by decide) ?_
                have hk_1 : (1 : Int32).toInt = 1 := by decide
                exact hj1453 1 (by omega) (by omega) _ (lv_sub hl [0, 1, 2, 3, 4, 5] rfl)
    have hk_0 : (0 : Int32).toInt = 0 := by decide
    exact hl1292 11 0 _ _ (by omega) (by omega) (by omega) hG hS _ (lv_sub hl [0, 1, 2, 3, 4, 5] rfl)
  refine lv_icmp_le (tgt := 36) hx hb dX3_joinMore_9 (by decide) (fun c9 => ?_) (fun c9 => ?_)
  · have hc3 : p3.toInt ≤ v2.toInt := (fi_le rfl rfl).mp c9
    exact hj15 _ _ hG hS _ (lv_sub hl [0, 1, 2, 3, 4] rfl)
  · have hc3 : ¬ (p3.toInt ≤ v2.toInt) := fun h9 => c9 ((fi_le rfl rfl).mpr h9)
    refine lv_aload_n hx hb dX3_joinMore_12 rfl (lv_at hl 0 rfl) ?_
    refine lv_iload_n hx hb dX3_joinMore_13 rfl (lv_at hl 3 rfl) ?_
    refine tk_put (ci := 3) (v := .int p3) (ty := .int) (C := RX3) (T := TX3) (N := 5) (sp := (0, (-2147483648), 2147483647, 0)) hx hb htl inX3 tyX3 tyX3_ok nmX3 hown hK hG hS ht_a0 (by decide) tk_no rfl 4 (by decide) (htl _ mw_1456) (fun _ h9 => h9) rfl (tyX3_ok 4 (by decide)) rfl rfl rfl (tk_Vi (tk_rng _).1 (tk_rng _).2) (fun _ h => h) (tk_w.of ht_a0 (by decide) (List.mem_of_getElem? (i := 0) rfl) (Nat.le_refl _) (Nat.le_refl _)) dX3_joinMore_14 (fun H locs hG hS hf1475 hq9 hj9 => ?_)
    refine lv_aload_n hx hb dX3_joinMore_17 rfl (lv_at hl 0 rfl) ?_
    refine lv_iload_n hx hb dX3_joinMore_18 rfl (lv_at hl 1 rfl) ?_
    refine tk_put (ci := 3) (v := .int 2) (ty := .int) (C := RX3) (T := TX3) (N := 5) (sp := (0, 0, 4, 0)) hx hb htl inX3 tyX3 tyX3_ok nmX3 hown hK hG hS ht_a0 (by decide) tk_no rfl 3 (by decide) (htl _ mw_1455) (fun _ h9 => h9) rfl (tyX3_ok 3 (by decide)) rfl rfl rfl (tk_Vi (by decide) (by decide)) (fun _ h => h) (tk_w.of ht_a0 (by decide) (List.mem_of_getElem? (i := 0) rfl) (Nat.le_refl _) (Nat.le_refl _)) dX3_joinMore_19 (fun H locs hG hS hf1477 hq9 hj9 => ?_)
    refine lv_aload_n hx hb dX3_joinMore_22 rfl (lv_at hl 0 rfl) ?_
    refine tk_get (ci := 3) (C := RX3) (T := TX3) (N := 5) (sp := (6, 22, 4, 0)) hx hb htl inX3 hown hK hG ht_a0 (by decide) tk_no rfl 1 (by decide) (htl _ mw_173) (fun _ h9 => h9) rfl dX3_joinMore_23 (fun v9 hf1479 hV9 => ?_)
    obtain ⟨b1480, rfl, ht_b1480⟩ := hV9
    have ht_b1480 : t b1480 = (22, 4, 0) := ht_b1480
    refine lv_iconst (v := 0) hx hb dX3_joinMore_26 (by decide) ?_
    refine lv_aload_n hx hb dX3_joinMore_27 rfl (lv_at hl 0 rfl) ?_
    refine tk_get (ci := 3) (C := RX3) (T := TX3) (N := 5) (sp := (6, 20, 4, 0)) hx hb htl inX3 hown hK hG ht_a0 (by decide) tk_no rfl 2 (by decide) (htl _ mw_174) (fun _ h9 => h9) rfl dX3_joinMore_28 (fun v9 hf1481 hV9 => ?_)
    obtain ⟨b1482, rfl, ht_b1482⟩ := hV9
    have ht_b1482 : t b1482 = (20, 4, 0) := ht_b1482
    refine lv_iconst (v := 0) hx hb dX3_joinMore_31 (by decide) ?_
    refine lv_iconst (v := 4) hx hb dX3_joinMore_32 (by decide) ?_
    refine tk_copy (SP := 0) (DP := 0) (NC := 4) hx hb (by rw [hml]; exact hl.1.symm) hown (htl _ mw_1461) (htl _ mw_655) (htl _ mw_656) (htl _ mw_657) hK hG hS ht_b1480 ht_b1482 (by decide) (by decide) (fun _ h => h) (fun _ => Iff.rfl) tk_no tk_no (by decide) (by decide) (by decide) (by decide) (by decide) (by decide) (by decide) (by decide) (fun _ _ _ _ _ => trivial) (tk_w.of ht_b1482 (by decide) (List.mem_of_getElem? (i := 1) rfl) (Nat.le_refl _) (Nat.le_refl _)) (Nat.le_of_ble_eq_true rfl) (Nat.le_of_ble_eq_true rfl) dX3_joinMore_33 (fun H locs hG hS hq9 => ?_)
    exact hj15 _ _ hG hS _ (lv_sub hl [0, 1, 2, 3, 4] rfl)
set_option maxHeartbeats 4000000 in
set_option maxRecDepth 100000 in
theorem k_X3_joinMore_1 (l : Launch) (D : va_G) (cy : Nat → ClassId) (ld : Nat → Nat) (t : tk_T) (a0 : Nat) (p2 : Int32) (p3 : Int32) (p4 : Int32) (ht_a0 : t a0 = (4, 0, 0)) : Met l yX3_joinMore (wl yX3_joinMore cX3_joinMore 8 none) ({ frames := 7, cells := 0, slots := 0, locals := 420 }) (tp D cy ld t [] [.ref a0, .int 1, .int p2, .int p3, .int p4] (fun H => True)) (tv D cy ld t [] (fun H => True) (tk_w t [(4, 0, 0), (20, 0, 0), (22, 0, 0)])) 0 0 (tk_w t [(4, 0, 0), (20, 0, 0), (22, 0, 0)]) := by
  refine tk_met (y := yX3_joinMore) (cc := cX3_joinMore) (maxL := 8) (ret := none) (av := [.ref a0, .int 1, .int p2, .int p3, .int p4]) _ _ (by decide) (Nat.le_of_ble_eq_true rfl) ?_
  intro p e s m args below meth c hx hb hr hml hts htl hown hlocks hK H locs hH hG hS hB hZ ls hl
  have hown : s.vm.findClass RX3 = some m.cls := hown
  have hl : lv_has ls 8 [(0, .ref a0), (1, .int 1), (2, .int p2), (3, .int p3), (4, .int p4)] := hl
  have hr_p2 := tk_rng p2
  have hr_p3 := tk_rng p3
  have hr_p4 := tk_rng p4
  refine lv_iload_n hx hb dX3_joinMore_0 rfl (lv_at hl 1 rfl) ?_
  refine lv_if_le (tgt := 36) hx hb dX3_joinMore_1 (by decide) (fun c9 => absurd c9 (by decide)) (fun _ => ?_)
  refine lv_iload_n hx hb dX3_joinMore_4 rfl (lv_at hl 3 rfl) ?_
  refine lv_aload_n hx hb dX3_joinMore_5 rfl (lv_at hl 0 rfl) ?_
  refine tk_get (ci := 3) (C := RX3) (T := TX3) (N := 5) (sp := (0, (-2147483648), 2147483647, 0)) hx hb htl inX3 hown hK hG ht_a0 (by decide) tk_no rfl 4 (by decide) (htl _ mw_1456) (fun _ h9 => h9) rfl dX3_joinMore_6 (fun v9 hf1 hV9 => ?_)
  obtain ⟨v2, rfl, ha_v2, hb_v2⟩ := hV9
  have hj15 : ∀ (H : Heap) (locs : List Loc), tk_G D cy ld t [] H → va_S (tk_w t [(4, 0, 0), (20, 0, 0), (22, 0, 0)]) s.heap H locs → ∀ ls : Array Slot, lv_has ls 8 [(0, .ref a0), (1, .int 1), (2, .int p2), (3, .int p3), (4, .int p4)] → W p l e ({ frames := 7, cells := 0, slots := 0, locals := 420 }) s m args below meth c H locs 0 0 (MQ below (tv D cy ld t [] (fun H => True) (tk_w t [(4, 0, 0), (20, 0, 0), (22, 0, 0)])) args s 0 0 (tk_w t [(4, 0, 0), (20, 0, 0), (22, 0, 0)])) (F0 m 36 ls []) := by
    intro H locs hG hS ls hl
    refine lv_iload_n hx hb dX3_joinMore_36 rfl (lv_at hl 1 rfl) ?_
    refine lv_iconst (v := 4) hx hb dX3_joinMore_37 (by decide) ?_
    refine lv_icmp_lt (tgt := 42) hx hb dX3_joinMore_38 (by decide) (fun _ => ?_) (fun c9 => absurd (by decide) c9)
    refine lv_iconst (v := 0) hx hb dX3_joinMore_42 (by decide) ?_
    refine lv_istore (lv' := [(5, .int 0), (0, .ref a0), (1, .int 1), (2, .int p2), (3, .int p3), (4, .int p4)]) hx hb dX3_joinMore_43 hl (by decide) rfl (fun ls hl => ?_)
    have hl1292 : ∀ (N : Nat) (v16 : Int32) (H : Heap) (locs : List Loc), v16.toInt ≤ 10 → 0 ≤ v16.toInt → (-1) * v16.toInt + 10 < (N : Int) → tk_G D cy ld t [] H → va_S (tk_w t [(4, 0, 0), (20, 0, 0), (22, 0, 0)]) s.heap H locs → ∀ ls : Array Slot, lv_has ls 8 [(5, .int v16), (0, .ref a0), (1, .int 1), (2, .int p2), (3, .int p3), (4, .int p4)] → W p l e ({ frames := 7, cells := 0, slots := 0, locals := 420 }) s m args below meth c H locs 0 0 (MQ below (tv D cy ld t [] (fun H => True) (tk_w t [(4, 0, 0), (20, 0, 0), (22, 0, 0)])) args s 0 0 (tk_w t [(4, 0, 0), (20, 0, 0), (22, 0, 0)])) (F0 m 45 ls []) := by
      intro N
      induction N with
      | zero => intro v16 H locs hq0_l1292 hq1_l1292 hm_l1292 hG hS ls hl; exfalso; omega
      | succ N ih =>
        intro v16 H locs hq0_l1292 hq1_l1292 hm_l1292 hG hS ls hl
        refine lv_iload hx hb dX3_joinMore_45 (lv_at hl 0 rfl) ?_
        refine lv_aload_n hx hb dX3_joinMore_47 rfl (lv_at hl 1 rfl) ?_
        refine tk_get (ci := 3) (C := RX3) (T := TX3) (N := 5) (sp := (8, 20, 3, 0)) hx hb htl inX3 hown hK hG ht_a0 (by decide) tk_no rfl 0 (by decide) (htl _ mw_175) (fun _ h9 => h9) rfl dX3_joinMore_48 (fun v9 hf1293 hV9 => ?_)
        obtain ⟨rfl, ht_ld20⟩ := hV9
        have ht_ld20 : t (ld 20) = (3, 0, 0) := ht_ld20
        refine fx_top (v := .ref (ld 20)) rfl ?_
        refine tk_get (ci := 2) (C := RX2) (T := TX2) (N := 20) (sp := (0, 0, 10, 0)) hx hb htl inX2 hown hK hG ht_ld20 (by decide) tk_no rfl 7 (by decide) (htl _ mw_1462) (fun _ h9 => h9) rfl dX3_joinMore_51 (fun v9 hf1294 hV9 => ?_)
        obtain ⟨v1295, rfl, ha_v1295, hb_v1295⟩ := hV9
        refine lv_icmp_ge (tgt := 188) hx hb dX3_joinMore_54 (by decide) (fun c9 => ?_) (fun c9 => ?_)
        · have hc1296 : v1295.toInt ≤ v16.toInt := (fi_le rfl rfl).mp c9
          exact tk_vret hx hb hr hlocks trivial hG hS dX3_joinMore_188
        · have hc1296 : ¬ (v1295.toInt ≤ v16.toInt) := fun h9 => c9 ((fi_le rfl rfl).mpr h9)
          refine lv_iload_n hx hb dX3_joinMore_57 rfl (lv_at hl 3 rfl) ?_
          refine lv_iload hx hb dX3_joinMore_58 (lv_at hl 0 rfl) ?_
          refine lv_ishr hx hb dX3_joinMore_60 ?_
          refine tk_any (fun v1386 => ?_)
          refine lv_iconst (v := 1) hx hb dX3_joinMore_61 (by decide) ?_
          refine lv_iand hx hb dX3_joinMore_62 ?_
          refine tk_say (P := fun z => 0 ≤ z.toInt ∧ z.toInt ≤ 1) (tk_and v1386 1 (by decide) (by decide)) (fun v1387 h_v1387 => ?_)
          have hj1432 : ∀ (H : Heap) (locs : List Loc), tk_G D cy ld t [] H → va_S (tk_w t [(4, 0, 0), (20, 0, 0), (22, 0, 0)]) s.heap H locs → tk_f D H (ld 20) 2 7 (.int v1295) → ∀ ls : Array Slot, lv_has ls 8 [(5, .int v16), (0, .ref a0), (1, .int 1), (2, .int p2), (3, .int p3), (4, .int p4)] → W p l e ({ frames := 7, cells := 0, slots := 0, locals := 420 }) s m args below meth c H locs 0 0 (MQ below (tv D cy ld t [] (fun H => True) (tk_w t [(4, 0, 0), (20, 0, 0), (22, 0, 0)])) args s 0 0 (tk_w t [(4, 0, 0), (20, 0, 0), (22, 0, 0)])) (F0 m 182 ls []) := by
            intro H locs hG hS hf1294 ls hl
            obtain ⟨v1433, h_v1433, e_v1433⟩ := tk_inc v16 1 (by decide) (by omega) (by omega)
            refine lv_iinc (v := v1433) (lv' := [(5, .int v1433), (0, .ref a0), (1, .int 1), (2, .int p2), (3, .int p3), (4, .int p4)]) hx hb dX3_joinMore_182 hl (k := 0) rfl e_v1433 (by decide) rfl (fun ls hl => ?_)
            refine lv_goto (tgt := 45) hx hb dX3_joinMore_185 (by decide) ?_
            exact ih v1433 _ _ (by omega) (by omega) (by omega) hG hS _ (lv_sub hl [0, 1, 2, 3, 4, 5] rfl)
          refine lv_if_ne (tgt := 182) hx hb dX3_joinMore_63 (by decide) (fun c9 => ?_) (fun c9 => ?_)
          · have hc1388 : ¬ (v1387.toInt = 0) := fun h9 => c9 ((fi_eq rfl (by decide)).mpr h9)
            exact hj1432 _ _ hG hS hf1294 _ (lv_sub hl [0, 1, 2, 3, 4, 5] rfl)
          · have hc1388 : v1387.toInt = 0 := (fi_eq rfl (by decide)).mp c9
            refine lv_aload_n hx hb dX3_joinMore_66 rfl (lv_at hl 1 rfl) ?_
            refine tk_get (ci := 3) (C := RX3) (T := TX3) (N := 5) (sp := (8, 20, 3, 0)) hx hb htl inX3 hown hK hG ht_a0 (by decide) tk_no rfl 0 (by decide) (htl _ mw_175) (fun _ h9 => h9) rfl dX3_joinMore_67 (fun v9 hf1434 hV9 => ?_)
            obtain ⟨rfl, ht_ld20⟩ := hV9
            have ht_ld20 : t (ld 20) = (3, 0, 0) := ht_ld20
            refine fx_top (v := .ref (ld 20)) rfl ?_
            refine tk_get (ci := 2) (C := RX2) (T := TX2) (N := 20) (sp := (1, 20, 10, 0)) hx hb htl inX2 hown hK hG ht_ld20 (by decide) tk_no rfl 10 (by decide) (htl _ mw_1463) (fun _ h9 => h9) rfl dX3_joinMore_70 (fun v9 hf1435 hV9 => ?_)
            obtain ⟨b1436, rfl, ht_b1436⟩ := hV9
            have ht_b1436 : t b1436 = (20, 10, 0) := ht_b1436
            refine lv_iload hx hb dX3_joinMore_73 (lv_at hl 0 rfl) ?_
            refine tk_iald hx hb hK hG ht_b1436 (by decide) (fun _ h => h) tk_no rfl (by omega) (by omega) dX3_joinMore_75 (fun v1437 _ _ => ?_)
            have hr_v1437 := tk_rng v1437
            refine lv_iload hx hb dX3_joinMore_76 (lv_at hl 5 rfl) ?_
            refine lv_icmp_gt (tgt := 182) hx hb dX3_joinMore_78 (by decide) (fun c9 => ?_) (fun c9 => ?_)
            · have hc1438 : p4.toInt < v1437.toInt := (fi_lt rfl rfl).mp c9
              exact hj1432 _ _ hG hS hf1294 _ (lv_sub hl [0, 1, 2, 3, 4, 5] rfl)
            · have hc1438 : ¬ (p4.toInt < v1437.toInt) := fun h9 => c9 ((fi_lt rfl rfl).mpr h9)
              refine lv_iload_n hx hb dX3_joinMore_81 rfl (lv_at hl 2 rfl) ?_
              refine lv_if_le (tgt := 118) hx hb dX3_joinMore_82 (by decide) (fun c9 => absurd c9 (by decide)) (fun _ => ?_)
              refine lv_aload_n hx hb dX3_joinMore_85 rfl (lv_at hl 1 rfl) ?_
              refine tk_get (ci := 3) (C := RX3) (T := TX3) (N := 5) (sp := (8, 20, 3, 0)) hx hb htl inX3 hown hK hG ht_a0 (by decide) tk_no rfl 0 (by decide) (htl _ mw_175) (fun _ h9 => h9) rfl dX3_joinMore_86 (fun v9 hf1439 hV9 => ?_)
              obtain ⟨rfl, ht_ld20⟩ := hV9
              have ht_ld20 : t (ld 20) = (3, 0, 0) := ht_ld20
              refine fx_top (v := .ref (ld 20)) rfl ?_
              refine tk_get (ci := 2) (C := RX2) (T := TX2) (N := 20) (sp := (1, 20, 10, 0)) hx hb htl inX2 hown hK hG ht_ld20 (by decide) tk_no rfl 9 (by decide) (htl _ mw_1464) (fun _ h9 => h9) rfl dX3_joinMore_89 (fun v9 hf1440 hV9 => ?_)
              obtain ⟨b1441, rfl, ht_b1441⟩ := hV9
              have ht_b1441 : t b1441 = (20, 10, 0) := ht_b1441
              refine lv_aload_n hx hb dX3_joinMore_92 rfl (lv_at hl 1 rfl) ?_
              refine tk_get (ci := 3) (C := RX3) (T := TX3) (N := 5) (sp := (6, 22, 4, 0)) hx hb htl inX3 hown hK hG ht_a0 (by decide) tk_no rfl 1 (by decide) (htl _ mw_173) (fun _ h9 => h9) rfl dX3_joinMore_93 (fun v9 hf1442 hV9 => ?_)
              obtain ⟨b1443, rfl, ht_b1443⟩ := hV9
              have ht_b1443 : t b1443 = (22, 4, 0) := ht_b1443
              refine lv_iload_n hx hb dX3_joinMore_96 rfl (lv_at hl 2 rfl) ?_
              refine lv_iconst (v := 1) hx hb dX3_joinMore_97 (by decide) ?_
              refine lv_isub hx hb dX3_joinMore_98 ?_
              refine fx_ti (v := 0) (by decide) ?_
              refine tk_iald hx hb hK hG ht_b1443 (by decide) (fun _ h => h) tk_no (I := 0) (by decide) (by decide) (by decide) dX3_joinMore_99 (fun v1444 hE9 _ => ?_)
              have he_v1444 : 0 ≤ v1444.toInt ∧ v1444.toInt ≤ 9 := hE9
              refine tk_iald hx hb hK hG ht_b1441 (by decide) (fun _ h => h) tk_no rfl (by omega) (by omega) dX3_joinMore_100 (fun v1445 _ _ => ?_)
              have hr_v1445 := tk_rng v1445
              refine lv_aload_n hx hb dX3_joinMore_101 rfl (lv_at hl 1 rfl) ?_
              refine tk_get (ci := 3) (C := RX3) (T := TX3) (N := 5) (sp := (8, 20, 3, 0)) hx hb htl inX3 hown hK hG ht_a0 (by decide) tk_no rfl 0 (by decide) (htl _ mw_175) (fun _ h9 => h9) rfl dX3_joinMore_102 (fun v9 hf1446 hV9 => ?_)
              obtain ⟨rfl, ht_ld20⟩ := hV9
              have ht_ld20 : t (ld 20) = (3, 0, 0) := ht_ld20
              refine fx_top (v := .ref (ld 20)) rfl ?_
              refine tk_get (ci := 2) (C := RX2) (T := TX2) (N := 20) (sp := (1, 20, 10, 0)) hx hb htl inX2 hown hK hG ht_ld20 (by decide) tk_no rfl 9 (by decide) (htl _ mw_1464) (fun _ h9 => h9) rfl dX3_joinMore_105 (fun v9 hf1447 hV9 => ?_)
              obtain ⟨b1448, rfl, ht_b1448⟩ := hV9
              have ht_b1448 : t b1448 = (20, 10, 0) := ht_b1448
              refine lv_iload hx hb dX3_joinMore_108 (lv_at hl 0 rfl) ?_
              refine tk_iald hx hb hK hG ht_b1448 (by decide) (fun _ h => h) tk_no rfl (by omega) (by omega) dX3_joinMore_110 (fun v1449 _ _ => ?_)
              have hr_v1449 := tk_rng v1449
              have hj1453 : ∀ (v1452 : Int32), 0 ≤ v1452.toInt → v1452.toInt ≤ 1 → ∀ ls : Array Slot, lv_has ls 8 [(5, .int v16), (0, .ref a0), (1, .int 1), (2, .int p2), (3, .int p3), (4, .int p4)] → W p l e ({ frames := 7, cells := 0, slots := 0, locals := 420 }) s m args below meth c H locs 0 0 (MQ below (tv D cy ld t [] (fun H => True) (tk_w t [(4, 0, 0), (20, 0, 0), (22, 0, 0)])) args s 0 0 (tk_w t [(4, 0, 0), (20, 0, 0), (22, 0, 0)])) (F0 m 119 ls [.int v1452]) := by
                intro v1452 hq0_j1453 hq1_j1453 ls hl
                refine lv_istore (lv' := [(6, .int v1452), (5, .int v16), (0, .ref a0), (1, .int 1), (2, .int p2), (3, .int p3), (4, .int p4)]) hx hb dX3_joinMore_119 hl (by decide) rfl (fun ls hl => ?_)
                refine lv_aload_n hx hb dX3_joinMore_121 rfl (lv_at hl 2 rfl) ?_
                refine tk_get (ci := 3) (C := RX3) (T := TX3) (N := 5) (sp := (6, 22, 4, 0)) hx hb htl inX3 hown hK hG ht_a0 (by decide) tk_no rfl 1 (by decide) (htl _ mw_173) (fun _ h9 => h9) rfl dX3_joinMore_122 (fun v9 hf1454 hV9 => ?_)
                obtain ⟨b1455, rfl, ht_b1455⟩ := hV9
                have ht_b1455 : t b1455 = (22, 4, 0) := ht_b1455
                refine lv_iload_n hx hb dX3_joinMore_125 rfl (lv_at hl 3 rfl) ?_
                refine lv_iload hx hb dX3_joinMore_126 (lv_at hl 1 rfl) ?_
                refine tk_iast hx hb hK hG hS ht_b1455 (by decide) (fun _ => Iff.rfl) tk_no (I := 1) (by decide) (by decide) (by decide) (show 0 ≤ (v16 : Int32).toInt ∧ (v16 : Int32).toInt ≤ 9 from ⟨by omega, by omega⟩) (tk_w.of ht_b1455 (by decide) (List.mem_of_getElem? (i := 2) rfl) (Nat.le_refl _) (Nat.le_refl _)) dX3_joinMore_128 (fun H locs hG hS hq9 => ?_)
                have hf1294 := hf1294.kept (hq9 _ (tk_ne ht_ld20 ht_b1455 (Or.inl (by decide))))
                refine lv_iload_n hx hb dX3_joinMore_129 rfl (lv_at hl 5 rfl) ?_
                refine lv_aload_n hx hb dX3_joinMore_130 rfl (lv_at hl 2 rfl) ?_
                refine tk_get (ci := 3) (C := RX3) (T := TX3) (N := 5) (sp := (8, 20, 3, 0)) hx hb htl inX3 hown hK hG ht_a0 (by decide) tk_no rfl 0 (by decide) (htl _ mw_175) (fun _ h9 => h9) rfl dX3_joinMore_131 (fun v9 hf1457 hV9 => ?_)
                obtain ⟨rfl, ht_ld20⟩ := hV9
                have ht_ld20 : t (ld 20) = (3, 0, 0) := ht_ld20
                refine fx_top (v := .ref (ld 20)) rfl ?_
                refine tk_get (ci := 2) (C := RX2) (T := TX2) (N := 20) (sp := (1, 20, 10, 0)) hx hb htl inX2 hown hK hG ht_ld20 (by decide) tk_no rfl 8 (by decide) (htl _ mw_1465) (fun _ h9 => h9) rfl dX3_joinMore_134 (fun v9 hf1458 hV9 => ?_)
                obtain ⟨b1459, rfl, ht_b1459⟩ := hV9
                have ht_b1459 : t b1459 = (20, 10, 0) := ht_b1459
                refine lv_iload hx hb dX3_joinMore_137 (lv_at hl 1 rfl) ?_
                refine tk_iald hx hb hK hG ht_b1459 (by decide) (fun _ h => h) tk_no rfl (by omega) (by omega) dX3_joinMore_139 (fun v1460 _ _ => ?_)
                have hr_v1460 := tk_rng v1460
                refine lv_iadd hx hb dX3_joinMore_140 ?_
                obtain ⟨v1461, hm_v1461⟩ : ∃ z : Int32, p3 + v1460 = z := ⟨_, rfl⟩
                refine fx_ti hm_v1461 ?_
                refine lv_iload hx hb dX3_joinMore_141 (lv_at hl 0 rfl) ?_
                have hj1465 : ∀ (v1464 : Int32), v1464.toInt ≤ 3 → 0 ≤ (-1) * v1452.toInt + v1464.toInt → ∀ ls : Array Slot, lv_has ls 8 [(5, .int v16), (0, .ref a0), (1, .int 1), (2, .int p2), (3, .int p3), (4, .int p4)] → W p l e ({ frames := 7, cells := 0, slots := 0, locals := 420 }) s m args below meth c H locs 0 0 (MQ below (tv D cy ld t [] (fun H => True) (tk_w t [(4, 0, 0), (20, 0, 0), (22, 0, 0)])) args s 0 0 (tk_w t [(4, 0, 0), (20, 0, 0), (22, 0, 0)])) (F0 m 151 ls [.int v1464, .int v1461]) := by
                  intro v1464 hq0_j1465 hq1_j1465 ls hl
                  refine lv_iadd hx hb dX3_joinMore_151 ?_
                  obtain ⟨v1466, hm_v1466⟩ : ∃ z : Int32, v1461 + v1464 = z := ⟨_, rfl⟩
                  refine fx_ti hm_v1466 ?_
                  refine lv_istore (lv' := [(7, .int v1466), (5, .int v16), (0, .ref a0), (1, .int 1), (2, .int p2), (3, .int p3), (4, .int p4)]) hx hb dX3_joinMore_152 hl (by decide) rfl (fun ls hl => ?_)
                  refine lv_aload_n hx hb dX3_joinMore_154 rfl (lv_at hl 2 rfl) ?_
                  refine lv_iload_n hx hb dX3_joinMore_155 rfl (lv_at hl 3 rfl) ?_
                  refine lv_iconst (v := 1) hx hb dX3_joinMore_156 (by decide) ?_
                  refine lv_iadd hx hb dX3_joinMore_157 ?_
                  refine fx_ti (v := 2) (by decide) ?_
                  refine lv_iload_n hx hb dX3_joinMore_158 rfl (lv_at hl 4 rfl) ?_
                  refine lv_iconst (v := 1) hx hb dX3_joinMore_159 (by decide) ?_
                  refine lv_iload hx hb dX3_joinMore_160 (lv_at hl 1 rfl) ?_
                  refine lv_ishl hx hb dX3_joinMore_162 ?_
                  refine tk_say (P := fun z => 1 ≤ z.toInt ∧ z.toInt ≤ 1024) (tk_shl1 v16 (by omega) (by omega)) (fun v1467 h_v1467 => ?_)
                  refine lv_ior hx hb dX3_joinMore_163 ?_
                  refine tk_any (fun v1468 => ?_)
                  refine lv_iload hx hb dX3_joinMore_164 (lv_at hl 0 rfl) ?_
                  refine lv_iload hx hb dX3_joinMore_166 (lv_at hl 6 rfl) ?_
                  refine lv_aload_n hx hb dX3_joinMore_168 rfl (lv_at hl 2 rfl) ?_
                  refine tk_get (ci := 3) (C := RX3) (T := TX3) (N := 5) (sp := (8, 20, 3, 0)) hx hb htl inX3 hown hK hG ht_a0 (by decide) tk_no rfl 0 (by decide) (htl _ mw_175) (fun _ h9 => h9) rfl dX3_joinMore_169 (fun v9 hf1469 hV9 => ?_)
                  obtain ⟨rfl, ht_ld20⟩ := hV9
                  have ht_ld20 : t (ld 20) = (3, 0, 0) := ht_ld20
                  refine fx_top (v := .ref (ld 20)) rfl ?_
                  refine tk_get (ci := 2) (C := RX2) (T := TX2) (N := 20) (sp := (1, 20, 10, 0)) hx hb htl inX2 hown hK hG ht_ld20 (by decide) tk_no rfl 10 (by decide) (htl _ mw_1463) (fun _ h9 => h9) rfl dX3_joinMore_172 (fun v9 hf1470 hV9 => ?_)
                  obtain ⟨b1471, rfl, ht_b1471⟩ := hV9
                  have ht_b1471 : t b1471 = (20, 10, 0) := ht_b1471
                  refine lv_iload hx hb dX3_joinMore_175 (lv_at hl 1 rfl) ?_
                  refine tk_iald hx hb hK hG ht_b1471 (by decide) (fun _ h => h) tk_no rfl (by omega) (by omega) dX3_joinMore_177 (fun v1472 _ _ => ?_)
                  have hr_v1472 := tk_rng v1472
                  refine lv_isub hx hb dX3_joinMore_178 ?_
                  obtain ⟨v1473, hm_v1473⟩ : ∃ z : Int32, p4 - v1472 = z := ⟨_, rfl⟩
                  refine fx_ti hm_v1473 ?_
                  have hk_2 : (2 : Int32).toInt = 2 := by decide
                  refine tk_Vv (As := [.int 2, .int v1468, .int v1466, .int v1473]) (rest := []) (ci := 3) ⟨hx, hb, hml, hown, hts⟩ hK hG hZ hS (k_X3_joinMore_2 l D cy ld t a0 v1468 v1466 v1473 ht_a0) trivial ⟨callB_of 4 hts (wl_in mw_1460) rfl rfl rfl (htl _ mw_48) (htl _ mw_1457) hd_yX3_joinMore ⟨(Nat.le_of_ble_eq_true rfl), (Nat.le_of_ble_eq_true rfl)⟩, htl _ mw_1458, htl _ mw_1459⟩ ht_a0 (by decide) tk_no rfl (tk_w.pick [0, 1, 2] rfl) rfl hl.1 rfl (Nat.le_of_ble_eq_true rfl) dX3_joinMore_179 ⟨(Nat.le_of_ble_eq_true rfl), (Nat.le_of_ble_eq_true rfl)⟩ (fun H locs hpo hG hS hq9 => ?_)
                  have hf1294 := hf1294.call hq9 (tk_w.no ht_ld20 (by decide))
                  exact hj1432 _ _ hG hS hf1294 _ (lv_sub hl [1, 2, 3, 4, 5, 6] rfl)
                refine lv_if_eq (tgt := 150) hx hb dX3_joinMore_143 (by decide) (fun c9 => ?_) (fun c9 => ?_)
                · have hc1462 : v1452.toInt = 0 := (fi_eq rfl (by decide)).mp c9
                  refine lv_iconst (v := 0) hx hb dX3_joinMore_150 (by decide) ?_
                  have hk_0 : (0 : Int32).toInt = 0 := by decide
                  exact hj1465 0 (by omega) (by omega) _ (lv_sub hl [1, 2, 3, 4, 5, 6] rfl)
                · have hc1462 : ¬ (v1452.toInt = 0) := fun h9 => c9 ((fi_eq rfl (by decide)).mpr h9)
                  refine lv_iconst (v := 3) hx hb dX3_joinMore_146 (by decide) ?_
                  refine lv_goto (tgt := 151) hx hb dX3_joinMore_147 (by decide) ?_
                  have hk_3 : (3 : Int32).toInt = 3 := by decide
                  exact hj1465 3 (by omega) (by omega) _ (lv_sub hl [1, 2, 3, 4, 5, 6] rfl)
              refine lv_icmp_ne (tgt := 118) hx hb dX3_joinMore_111 (by decide) (fun c9 => ?_) (fun c9 => ?_)
              · have hc1450 : ¬ (v1445.toInt = v1449.toInt) := fun h9 => c9 ((fi_eq rfl rfl).mpr h9)
                refine lv_iconst (v := 0) hx hb dX3_joinMore_118 (by decide) ?_
                have hk_0 : (0 : Int32).toInt = 0 := by decide
                exact hj1453 0 (by omega) (by omega) _ (lv_sub hl [0, 1, 2, 3, 4, 5] rfl)
              · have hc1450 : v1445.toInt = v1449.toInt := (fi_eq rfl rfl).mp c9
                refine lv_iconst (v := 1) hx hb dX3_joinMore_114 (by decide) ?_
                refine lv_goto (tgt := 119) hx hb dX3_joinMore_115 (by decide) ?_
                have hk_1 : (1 : Int32).toInt = 1 := by decide
                exact hj1453 1 (by omega) (by omega) _ (lv_sub hl [0, 1, 2, 3, 4, 5] rfl)
    have hk_0 : (0 : Int32).toInt = 0 := by decide
    exact hl1292 11 0 _ _ (by omega) (by omega) (by omega) hG hS _ (lv_sub hl [0, 1, 2, 3, 4, 5] rfl)
  refine lv_icmp_le (tgt := 36) hx hb dX3_joinMore_9 (by decide) (fun c9 => ?_) (fun c9 => ?_)
  · have hc3 : p3.toInt ≤ v2.toInt := (fi_le rfl rfl).mp c9
    exact hj15 _ _ hG hS _ (lv_sub hl [0, 1, 2, 3, 4] rfl)
  · have hc3 : ¬ (p3.toInt ≤ v2.toInt) := fun h9 => c9 ((fi_le rfl rfl).mpr h9)
    refine lv_aload_n hx hb dX3_joinMore_12 rfl (lv_at hl 0 rfl) ?_
    refine lv_iload_n hx hb dX3_joinMore_13 rfl (lv_at hl 3 rfl) ?_
    refine tk_put (ci := 3) (v := .int p3) (ty := .int) (C := RX3) (T := TX3) (N := 5) (sp := (0, (-2147483648), 2147483647, 0)) hx hb htl inX3 tyX3 tyX3_ok nmX3 hown hK hG hS ht_a0 (by decide) tk_no rfl 4 (by decide) (htl _ mw_1456) (fun _ h9 => h9) rfl (tyX3_ok 4 (by decide)) rfl rfl rfl (tk_Vi (tk_rng _).1 (tk_rng _).2) (fun _ h => h) (tk_w.of ht_a0 (by decide) (List.mem_of_getElem? (i := 0) rfl) (Nat.le_refl _) (Nat.le_refl _)) dX3_joinMore_14 (fun H locs hG hS hf1475 hq9 hj9 => ?_)
    refine lv_aload_n hx hb dX3_joinMore_17 rfl (lv_at hl 0 rfl) ?_
    refine lv_iload_n hx hb dX3_joinMore_18 rfl (lv_at hl 1 rfl) ?_
    refine tk_put (ci := 3) (v := .int 1) (ty := .int) (C := RX3) (T := TX3) (N := 5) (sp := (0, 0, 4, 0)) hx hb htl inX3 tyX3 tyX3_ok nmX3 hown hK hG hS ht_a0 (by decide) tk_no rfl 3 (by decide) (htl _ mw_1455) (fun _ h9 => h9) rfl (tyX3_ok 3 (by decide)) rfl rfl rfl (tk_Vi (by decide) (by decide)) (fun _ h => h) (tk_w.of ht_a0 (by decide) (List.mem_of_getElem? (i := 0) rfl) (Nat.le_refl _) (Nat.le_refl _)) dX3_joinMore_19 (fun H locs hG hS hf1477 hq9 hj9 => ?_)
    refine lv_aload_n hx hb dX3_joinMore_22 rfl (lv_at hl 0 rfl) ?_
    refine tk_get (ci := 3) (C := RX3) (T := TX3) (N := 5) (sp := (6, 22, 4, 0)) hx hb htl inX3 hown hK hG ht_a0 (by decide) tk_no rfl 1 (by decide) (htl _ mw_173) (fun _ h9 => h9) rfl dX3_joinMore_23 (fun v9 hf1479 hV9 => ?_)
    obtain ⟨b1480, rfl, ht_b1480⟩ := hV9
    have ht_b1480 : t b1480 = (22, 4, 0) := ht_b1480
    refine lv_iconst (v := 0) hx hb dX3_joinMore_26 (by decide) ?_
    refine lv_aload_n hx hb dX3_joinMore_27 rfl (lv_at hl 0 rfl) ?_
    refine tk_get (ci := 3) (C := RX3) (T := TX3) (N := 5) (sp := (6, 20, 4, 0)) hx hb htl inX3 hown hK hG ht_a0 (by decide) tk_no rfl 2 (by decide) (htl _ mw_174) (fun _ h9 => h9) rfl dX3_joinMore_28 (fun v9 hf1481 hV9 => ?_)
    obtain ⟨b1482, rfl, ht_b1482⟩ := hV9
    have ht_b1482 : t b1482 = (20, 4, 0) := ht_b1482
    refine lv_iconst (v := 0) hx hb dX3_joinMore_31 (by decide) ?_
    refine lv_iconst (v := 4) hx hb dX3_joinMore_32 (by decide) ?_
    refine tk_copy (SP := 0) (DP := 0) (NC := 4) hx hb (by rw [hml]; exact hl.1.symm) hown (htl _ mw_1461) (htl _ mw_655) (htl _ mw_656) (htl _ mw_657) hK hG hS ht_b1480 ht_b1482 (by decide) (by decide) (fun _ h => h) (fun _ => Iff.rfl) tk_no tk_no (by decide) (by decide) (by decide) (by decide) (by decide) (by decide) (by decide) (by decide) (fun _ _ _ _ _ => trivial) (tk_w.of ht_b1482 (by decide) (List.mem_of_getElem? (i := 1) rfl) (Nat.le_refl _) (Nat.le_refl _)) (Nat.le_of_ble_eq_true rfl) (Nat.le_of_ble_eq_true rfl) dX3_joinMore_33 (fun H locs hG hS hq9 => ?_)
    exact hj15 _ _ hG hS _ (lv_sub hl [0, 1, 2, 3, 4] rfl)
set_option maxHeartbeats 4000000 in
set_option maxRecDepth 100000 in
theorem k_X3_joinMore_0 (l : Launch) (D : va_G) (cy : Nat → ClassId) (ld : Nat → Nat) (t : tk_T) (a0 : Nat) (p2 : Int32) (p3 : Int32) (p4 : Int32) (ht_a0 : t a0 = (4, 0, 0)) : Met l yX3_joinMore (wl yX3_joinMore cX3_joinMore 8 none) ({ frames := 8, cells := 0, slots := 0, locals := 490 }) (tp D cy ld t [] [.ref a0, .int 0, .int p2, .int p3, .int p4] (fun H => True)) (tv D cy ld t [] (fun H => True) (tk_w t [(22, 0, 0), (4, 0, 0), (20, 0, 0)])) 0 0 (tk_w t [(22, 0, 0), (4, 0, 0), (20, 0, 0)]) := by
  refine tk_met (y := yX3_joinMore) (cc := cX3_joinMore) (maxL := 8) (ret := none) (av := [.ref a0, .int 0, .int p2, .int p3, .int p4]) _ _ (by decide) (Nat.le_of_ble_eq_true rfl) ?_
  intro p e s m args below meth c hx hb hr hml hts htl hown hlocks hK H locs hH hG hS hB hZ ls hl
  have hown : s.vm.findClass RX3 = some m.cls := hown
  have hl : lv_has ls 8 [(0, .ref a0), (1, .int 0), (2, .int p2), (3, .int p3), (4, .int p4)] := hl
  have hr_p2 := tk_rng p2
  have hr_p3 := tk_rng p3
  have hr_p4 := tk_rng p4
  refine lv_iload_n hx hb dX3_joinMore_0 rfl (lv_at hl 1 rfl) ?_
  refine lv_if_le (tgt := 36) hx hb dX3_joinMore_1 (by decide) (fun _ => ?_) (fun c9 => absurd (by decide) c9)
  refine lv_iload_n hx hb dX3_joinMore_36 rfl (lv_at hl 1 rfl) ?_
  refine lv_iconst (v := 4) hx hb dX3_joinMore_37 (by decide) ?_
  refine lv_icmp_lt (tgt := 42) hx hb dX3_joinMore_38 (by decide) (fun _ => ?_) (fun c9 => absurd (by decide) c9)
  refine lv_iconst (v := 0) hx hb dX3_joinMore_42 (by decide) ?_
  refine lv_istore (lv' := [(5, .int 0), (0, .ref a0), (1, .int 0), (2, .int p2), (3, .int p3), (4, .int p4)]) hx hb dX3_joinMore_43 hl (by decide) rfl (fun ls hl => ?_)
  have hl745 : ∀ (N : Nat) (v1 : Int32) (H : Heap) (locs : List Loc), v1.toInt ≤ 10 → 0 ≤ v1.toInt → (-1) * v1.toInt + 10 < (N : Int) → tk_G D cy ld t [] H → va_S (tk_w t [(22, 0, 0), (4, 0, 0), (20, 0, 0)]) s.heap H locs → ∀ ls : Array Slot, lv_has ls 8 [(5, .int v1), (0, .ref a0), (1, .int 0), (2, .int p2), (3, .int p3), (4, .int p4)] → W p l e ({ frames := 8, cells := 0, slots := 0, locals := 490 }) s m args below meth c H locs 0 0 (MQ below (tv D cy ld t [] (fun H => True) (tk_w t [(22, 0, 0), (4, 0, 0), (20, 0, 0)])) args s 0 0 (tk_w t [(22, 0, 0), (4, 0, 0), (20, 0, 0)])) (F0 m 45 ls []) := by
    intro N
    induction N with
    | zero => intro v1 H locs hq0_l745 hq1_l745 hm_l745 hG hS ls hl; exfalso; omega
    | succ N ih =>
      intro v1 H locs hq0_l745 hq1_l745 hm_l745 hG hS ls hl
      refine lv_iload hx hb dX3_joinMore_45 (lv_at hl 0 rfl) ?_
      refine lv_aload_n hx hb dX3_joinMore_47 rfl (lv_at hl 1 rfl) ?_
      refine tk_get (ci := 3) (C := RX3) (T := TX3) (N := 5) (sp := (8, 20, 3, 0)) hx hb htl inX3 hown hK hG ht_a0 (by decide) tk_no rfl 0 (by decide) (htl _ mw_175) (fun _ h9 => h9) rfl dX3_joinMore_48 (fun v9 hf746 hV9 => ?_)
      obtain ⟨rfl, ht_ld20⟩ := hV9
      have ht_ld20 : t (ld 20) = (3, 0, 0) := ht_ld20
      refine fx_top (v := .ref (ld 20)) rfl ?_
      refine tk_get (ci := 2) (C := RX2) (T := TX2) (N := 20) (sp := (0, 0, 10, 0)) hx hb htl inX2 hown hK hG ht_ld20 (by decide) tk_no rfl 7 (by decide) (htl _ mw_1462) (fun _ h9 => h9) rfl dX3_joinMore_51 (fun v9 hf747 hV9 => ?_)
      obtain ⟨v748, rfl, ha_v748, hb_v748⟩ := hV9
      refine lv_icmp_ge (tgt := 188) hx hb dX3_joinMore_54 (by decide) (fun c9 => ?_) (fun c9 => ?_)
      · have hc749 : v748.toInt ≤ v1.toInt := (fi_le rfl rfl).mp c9
        exact tk_vret hx hb hr hlocks trivial hG hS dX3_joinMore_188
      · have hc749 : ¬ (v748.toInt ≤ v1.toInt) := fun h9 => c9 ((fi_le rfl rfl).mpr h9)
        refine lv_iload_n hx hb dX3_joinMore_57 rfl (lv_at hl 3 rfl) ?_
        refine lv_iload hx hb dX3_joinMore_58 (lv_at hl 0 rfl) ?_
        refine lv_ishr hx hb dX3_joinMore_60 ?_
        refine tk_any (fun v801 => ?_)
        refine lv_iconst (v := 1) hx hb dX3_joinMore_61 (by decide) ?_
        refine lv_iand hx hb dX3_joinMore_62 ?_
        refine tk_say (P := fun z => 0 ≤ z.toInt ∧ z.toInt ≤ 1) (tk_and v801 1 (by decide) (by decide)) (fun v802 h_v802 => ?_)
        have hj828 : ∀ (H : Heap) (locs : List Loc), tk_G D cy ld t [] H → va_S (tk_w t [(22, 0, 0), (4, 0, 0), (20, 0, 0)]) s.heap H locs → tk_f D H (ld 20) 2 7 (.int v748) → ∀ ls : Array Slot, lv_has ls 8 [(5, .int v1), (0, .ref a0), (1, .int 0), (2, .int p2), (3, .int p3), (4, .int p4)] → W p l e ({ frames := 8, cells := 0, slots := 0, locals := 490 }) s m args below meth c H locs 0 0 (MQ below (tv D cy ld t [] (fun H => True) (tk_w t [(22, 0, 0), (4, 0, 0), (20, 0, 0)])) args s 0 0 (tk_w t [(22, 0, 0), (4, 0, 0), (20, 0, 0)])) (F0 m 182 ls []) := by
          intro H locs hG hS hf747 ls hl
          obtain ⟨v829, h_v829, e_v829⟩ := tk_inc v1 1 (by decide) (by omega) (by omega)
          refine lv_iinc (v := v829) (lv' := [(5, .int v829), (0, .ref a0), (1, .int 0), (2, .int p2), (3, .int p3), (4, .int p4)]) hx hb dX3_joinMore_182 hl (k := 0) rfl e_v829 (by decide) rfl (fun ls hl => ?_)
          refine lv_goto (tgt := 45) hx hb dX3_joinMore_185 (by decide) ?_
          exact ih v829 _ _ (by omega) (by omega) (by omega) hG hS _ (lv_sub hl [0, 1, 2, 3, 4, 5] rfl)
        refine lv_if_ne (tgt := 182) hx hb dX3_joinMore_63 (by decide) (fun c9 => ?_) (fun c9 => ?_)
        · have hc803 : ¬ (v802.toInt = 0) := fun h9 => c9 ((fi_eq rfl (by decide)).mpr h9)
          exact hj828 _ _ hG hS hf747 _ (lv_sub hl [0, 1, 2, 3, 4, 5] rfl)
        · have hc803 : v802.toInt = 0 := (fi_eq rfl (by decide)).mp c9
          refine lv_aload_n hx hb dX3_joinMore_66 rfl (lv_at hl 1 rfl) ?_
          refine tk_get (ci := 3) (C := RX3) (T := TX3) (N := 5) (sp := (8, 20, 3, 0)) hx hb htl inX3 hown hK hG ht_a0 (by decide) tk_no rfl 0 (by decide) (htl _ mw_175) (fun _ h9 => h9) rfl dX3_joinMore_67 (fun v9 hf830 hV9 => ?_)
          obtain ⟨rfl, ht_ld20⟩ := hV9
          have ht_ld20 : t (ld 20) = (3, 0, 0) := ht_ld20
          refine fx_top (v := .ref (ld 20)) rfl ?_
          refine tk_get (ci := 2) (C := RX2) (T := TX2) (N := 20) (sp := (1, 20, 10, 0)) hx hb htl inX2 hown hK hG ht_ld20 (by decide) tk_no rfl 10 (by decide) (htl _ mw_1463) (fun _ h9 => h9) rfl dX3_joinMore_70 (fun v9 hf831 hV9 => ?_)
          obtain ⟨b832, rfl, ht_b832⟩ := hV9
          have ht_b832 : t b832 = (20, 10, 0) := ht_b832
          refine lv_iload hx hb dX3_joinMore_73 (lv_at hl 0 rfl) ?_
          refine tk_iald hx hb hK hG ht_b832 (by decide) (fun _ h => h) tk_no rfl (by omega) (by omega) dX3_joinMore_75 (fun v833 _ _ => ?_)
          have hr_v833 := tk_rng v833
          refine lv_iload hx hb dX3_joinMore_76 (lv_at hl 5 rfl) ?_
          refine lv_icmp_gt (tgt := 182) hx hb dX3_joinMore_78 (by decide) (fun c9 => ?_) (fun c9 => ?_)
          · have hc834 : p4.toInt < v833.toInt := (fi_lt rfl rfl).mp c9
            exact hj828 _ _ hG hS hf747 _ (lv_sub hl [0, 1, 2, 3, 4, 5] rfl)
          · have hc834 : ¬ (p4.toInt < v833.toInt) := fun h9 => c9 ((fi_lt rfl rfl).mpr h9)
            refine lv_iload_n hx hb dX3_joinMore_81 rfl (lv_at hl 2 rfl) ?_
            refine lv_if_le (tgt := 118) hx hb dX3_joinMore_82 (by decide) (fun _ => ?_) (fun c9 => absurd (by decide) c9)
            refine lv_iconst (v := 0) hx hb dX3_joinMore_118 (by decide) ?_
            refine lv_istore (lv' := [(6, .int 0), (5, .int v1), (0, .ref a0), (1, .int 0), (2, .int p2), (3, .int p3), (4, .int p4)]) hx hb dX3_joinMore_119 hl (by decide) rfl (fun ls hl => ?_)
            refine lv_aload_n hx hb dX3_joinMore_121 rfl (lv_at hl 2 rfl) ?_
            refine tk_get (ci := 3) (C := RX3) (T := TX3) (N := 5) (sp := (6, 22, 4, 0)) hx hb htl inX3 hown hK hG ht_a0 (by decide) tk_no rfl 1 (by decide) (htl _ mw_173) (fun _ h9 => h9) rfl dX3_joinMore_122 (fun v9 hf835 hV9 => ?_)
            obtain ⟨b836, rfl, ht_b836⟩ := hV9
            have ht_b836 : t b836 = (22, 4, 0) := ht_b836
            refine lv_iload_n hx hb dX3_joinMore_125 rfl (lv_at hl 3 rfl) ?_
            refine lv_iload hx hb dX3_joinMore_126 (lv_at hl 1 rfl) ?_
            refine tk_iast hx hb hK hG hS ht_b836 (by decide) (fun _ => Iff.rfl) tk_no (I := 0) (by decide) (by decide) (by decide) (show 0 ≤ (v1 : Int32).toInt ∧ (v1 : Int32).toInt ≤ 9 from ⟨by omega, by omega⟩) (tk_w.of ht_b836 (by decide) (List.mem_of_getElem? (i := 0) rfl) (Nat.le_refl _) (Nat.le_refl _)) dX3_joinMore_128 (fun H locs hG hS hq9 => ?_)
            have hf747 := hf747.kept (hq9 _ (tk_ne ht_ld20 ht_b836 (Or.inl (by decide))))
            refine lv_iload_n hx hb dX3_joinMore_129 rfl (lv_at hl 5 rfl) ?_
            refine lv_aload_n hx hb dX3_joinMore_130 rfl (lv_at hl 2 rfl) ?_
            refine tk_get (ci := 3) (C := RX3) (T := TX3) (N := 5) (sp := (8, 20, 3, 0)) hx hb htl inX3 hown hK hG ht_a0 (by decide) tk_no rfl 0 (by decide) (htl _ mw_175) (fun _ h9 => h9) rfl dX3_joinMore_131 (fun v9 hf838 hV9 => ?_)
            obtain ⟨rfl, ht_ld20⟩ := hV9
            have ht_ld20 : t (ld 20) = (3, 0, 0) := ht_ld20
            refine fx_top (v := .ref (ld 20)) rfl ?_
            refine tk_get (ci := 2) (C := RX2) (T := TX2) (N := 20) (sp := (1, 20, 10, 0)) hx hb htl inX2 hown hK hG ht_ld20 (by decide) tk_no rfl 8 (by decide) (htl _ mw_1465) (fun _ h9 => h9) rfl dX3_joinMore_134 (fun v9 hf839 hV9 => ?_)
            obtain ⟨b840, rfl, ht_b840⟩ := hV9
            have ht_b840 : t b840 = (20, 10, 0) := ht_b840
            refine lv_iload hx hb dX3_joinMore_137 (lv_at hl 1 rfl) ?_
            refine tk_iald hx hb hK hG ht_b840 (by decide) (fun _ h => h) tk_no rfl (by omega) (by omega) dX3_joinMore_139 (fun v841 _ _ => ?_)
            have hr_v841 := tk_rng v841
            refine lv_iadd hx hb dX3_joinMore_140 ?_
            obtain ⟨v842, hm_v842⟩ : ∃ z : Int32, p3 + v841 = z := ⟨_, rfl⟩
            refine fx_ti hm_v842 ?_
            refine lv_iload hx hb dX3_joinMore_141 (lv_at hl 0 rfl) ?_
            refine lv_if_eq (tgt := 150) hx hb dX3_joinMore_143 (by decide) (fun _ => ?_) (fun c9 => absurd (by decide) c9)
            refine lv_iconst (v := 0) hx hb dX3_joinMore_150 (by decide) ?_
            refine lv_iadd hx hb dX3_joinMore_151 ?_
            obtain ⟨v843, hm_v843⟩ : ∃ z : Int32, v842 + 0 = z := ⟨_, rfl⟩
            refine fx_ti hm_v843 ?_
            refine lv_istore (lv' := [(7, .int v843), (6, .int 0), (5, .int v1), (0, .ref a0), (1, .int 0), (2, .int p2), (3, .int p3), (4, .int p4)]) hx hb dX3_joinMore_152 hl (by decide) rfl (fun ls hl => ?_)
            refine lv_aload_n hx hb dX3_joinMore_154 rfl (lv_at hl 3 rfl) ?_
            refine lv_iload_n hx hb dX3_joinMore_155 rfl (lv_at hl 4 rfl) ?_
            refine lv_iconst (v := 1) hx hb dX3_joinMore_156 (by decide) ?_
            refine lv_iadd hx hb dX3_joinMore_157 ?_
            refine fx_ti (v := 1) (by decide) ?_
            refine lv_iload_n hx hb dX3_joinMore_158 rfl (lv_at hl 5 rfl) ?_
            refine lv_iconst (v := 1) hx hb dX3_joinMore_159 (by decide) ?_
            refine lv_iload hx hb dX3_joinMore_160 (lv_at hl 2 rfl) ?_
            refine lv_ishl hx hb dX3_joinMore_162 ?_
            refine tk_say (P := fun z => 1 ≤ z.toInt ∧ z.toInt ≤ 1024) (tk_shl1 v1 (by omega) (by omega)) (fun v844 h_v844 => ?_)
            refine lv_ior hx hb dX3_joinMore_163 ?_
            refine tk_any (fun v845 => ?_)
            refine lv_iload hx hb dX3_joinMore_164 (lv_at hl 0 rfl) ?_
            refine lv_iload hx hb dX3_joinMore_166 (lv_at hl 7 rfl) ?_
            refine lv_aload_n hx hb dX3_joinMore_168 rfl (lv_at hl 3 rfl) ?_
            refine tk_get (ci := 3) (C := RX3) (T := TX3) (N := 5) (sp := (8, 20, 3, 0)) hx hb htl inX3 hown hK hG ht_a0 (by decide) tk_no rfl 0 (by decide) (htl _ mw_175) (fun _ h9 => h9) rfl dX3_joinMore_169 (fun v9 hf846 hV9 => ?_)
            obtain ⟨rfl, ht_ld20⟩ := hV9
            have ht_ld20 : t (ld 20) = (3, 0, 0) := ht_ld20
            refine fx_top (v := .ref (ld 20)) rfl ?_
            refine tk_get (ci := 2) (C := RX2) (T := TX2) (N := 20) (sp := (1, 20, 10, 0)) hx hb htl inX2 hown hK hG ht_ld20 (by decide) tk_no rfl 10 (by decide) (htl _ mw_1463) (fun _ h9 => h9) rfl dX3_joinMore_172 (fun v9 hf847 hV9 => ?_)
            obtain ⟨b848, rfl, ht_b848⟩ := hV9
            have ht_b848 : t b848 = (20, 10, 0) := ht_b848
            refine lv_iload hx hb dX3_joinMore_175 (lv_at hl 2 rfl) ?_
            refine tk_iald hx hb hK hG ht_b848 (by decide) (fun _ h => h) tk_no rfl (by omega) (by omega) dX3_joinMore_177 (fun v849 _ _ => ?_)
            have hr_v849 := tk_rng v849
            refine lv_isub hx hb dX3_joinMore_178 ?_
            obtain ⟨v850, hm_v850⟩ : ∃ z : Int32, p4 - v849 = z := ⟨_, rfl⟩
            refine fx_ti hm_v850 ?_
            have hk_1 : (1 : Int32).toInt = 1 := by decide
            refine tk_Vv (As := [.int 1, .int v845, .int v843, .int v850]) (rest := []) (ci := 3) ⟨hx, hb, hml, hown, hts⟩ hK hG hZ hS (k_X3_joinMore_1 l D cy ld t a0 v845 v843 v850 ht_a0) trivial ⟨callB_of 4 hts (wl_in mw_1460) rfl rfl rfl (htl _ mw_48) (htl _ mw_1457) hd_yX3_joinMore ⟨(Nat.le_of_ble_eq_true rfl), (Nat.le_of_ble_eq_true rfl)⟩, htl _ mw_1458, htl _ mw_1459⟩ ht_a0 (by decide) tk_no rfl (tk_w.pick [1, 2, 0] rfl) rfl hl.1 rfl (Nat.le_of_ble_eq_true rfl) dX3_joinMore_179 ⟨(Nat.le_of_ble_eq_true rfl), (Nat.le_of_ble_eq_true rfl)⟩ (fun H locs hpo hG hS hq9 => ?_)
            have hf747 := hf747.call hq9 (tk_w.no ht_ld20 (by decide))
            exact hj828 _ _ hG hS hf747 _ (lv_sub hl [2, 3, 4, 5, 6, 7] rfl)
  have hk_0 : (0 : Int32).toInt = 0 := by decide
  exact hl745 11 0 _ _ (by omega) (by omega) (by omega) hG hS _ (lv_sub hl [0, 1, 2, 3, 4, 5] rfl)
theorem dX3_strongest_0 : decode cX3_strongest 0 = .ok (.aload_n 0, 1) := by decide +kernel
theorem dX3_strongest_1 : decode cX3_strongest 1 = .ok (.iconst 0, 1) := by decide +kernel
theorem dX3_strongest_2 : decode cX3_strongest 2 = .ok (.putfield 22, 3) := by decide +kernel
theorem dX3_strongest_5 : decode cX3_strongest 5 = .ok (.aload_n 0, 1) := by decide +kernel
theorem dX3_strongest_6 : decode cX3_strongest 6 = .ok (.iconst (-1), 1) := by decide +kernel
theorem dX3_strongest_7 : decode cX3_strongest 7 = .ok (.putfield 26, 3) := by decide +kernel
theorem dX3_strongest_10 : decode cX3_strongest 10 = .ok (.aload_n 0, 1) := by decide +kernel
theorem dX3_strongest_11 : decode cX3_strongest 11 = .ok (.iconst 0, 1) := by decide +kernel
theorem dX3_strongest_12 : decode cX3_strongest 12 = .ok (.iconst 0, 1) := by decide +kernel
theorem dX3_strongest_13 : decode cX3_strongest 13 = .ok (.iconst 0, 1) := by decide +kernel
theorem dX3_strongest_14 : decode cX3_strongest 14 = .ok (.iload_n 1, 1) := by decide +kernel
theorem dX3_strongest_15 : decode cX3_strongest 15 = .ok (.invokevirtual 29, 3) := by decide +kernel
theorem dX3_strongest_18 : decode cX3_strongest 18 = .ok (.iload_n 2, 1) := by decide +kernel
theorem dX3_strongest_19 : decode cX3_strongest 19 = .ok (.iconst (-1), 1) := by decide +kernel
theorem dX3_strongest_20 : decode cX3_strongest 20 = .ok (.if_icmp .ne 8, 3) := by decide +kernel
theorem dX3_strongest_28 : decode cX3_strongest 28 = .ok (.iload_n 2, 1) := by decide +kernel
theorem dX3_strongest_29 : decode cX3_strongest 29 = .ok (.iconst 0, 1) := by decide +kernel
theorem dX3_strongest_30 : decode cX3_strongest 30 = .ok (.aload_n 0, 1) := by decide +kernel
theorem dX3_strongest_31 : decode cX3_strongest 31 = .ok (.getfield 22, 3) := by decide +kernel
theorem dX3_strongest_34 : decode cX3_strongest 34 = .ok (.iconst 1, 1) := by decide +kernel
theorem dX3_strongest_35 : decode cX3_strongest 35 = .ok (.isub, 1) := by decide +kernel
theorem dX3_strongest_36 : decode cX3_strongest 36 = .ok (.invokestatic 33, 3) := by decide +kernel
theorem dX3_strongest_52 : decode cX3_strongest 52 = .ok (.ireturn, 1) := by decide +kernel
theorem dX3_strongest_39 : decode cX3_strongest 39 = .ok (.ifCond .eq 12, 3) := by decide +kernel
theorem dX3_strongest_51 : decode cX3_strongest 51 = .ok (.iconst (-1), 1) := by decide +kernel
theorem dX3_strongest_42 : decode cX3_strongest 42 = .ok (.aload_n 0, 1) := by decide +kernel
theorem dX3_strongest_43 : decode cX3_strongest 43 = .ok (.getfield 15, 3) := by decide +kernel
theorem dX3_strongest_46 : decode cX3_strongest 46 = .ok (.iload_n 2, 1) := by decide +kernel
theorem dX3_strongest_47 : decode cX3_strongest 47 = .ok (.iaload, 1) := by decide +kernel
theorem dX3_strongest_48 : decode cX3_strongest 48 = .ok (.goto 4, 3) := by decide +kernel
theorem dX3_strongest_23 : decode cX3_strongest 23 = .ok (.aload_n 0, 1) := by decide +kernel
theorem dX3_strongest_24 : decode cX3_strongest 24 = .ok (.getfield 26, 3) := by decide +kernel
theorem dX3_strongest_27 : decode cX3_strongest 27 = .ok (.ireturn, 1) := by decide +kernel
set_option maxHeartbeats 4000000 in
set_option maxRecDepth 100000 in
theorem k_X3_strongest (l : Launch) (D : va_G) (cy : Nat → ClassId) (ld : Nat → Nat) (t : tk_T) (a0 : Nat) (p1 : Int32) (p2 : Int32) (ht_a0 : t a0 = (4, 0, 0)) : Met l yX3_strongest (wl yX3_strongest cX3_strongest 3 (some .int)) ({ frames := 9, cells := 0, slots := 0, locals := 560 }) (tp D cy ld t [] [.ref a0, .int p1, .int p2] (fun H => True)) (ti D cy ld t [] (fun r H => True) (tk_w t [(4, 0, 0), (22, 0, 0), (20, 0, 0)])) 0 0 (tk_w t [(4, 0, 0), (22, 0, 0), (20, 0, 0)]) := by
  refine tk_met (y := yX3_strongest) (cc := cX3_strongest) (maxL := 3) (ret := (some .int)) (av := [.ref a0, .int p1, .int p2]) _ _ (by decide) (Nat.le_of_ble_eq_true rfl) ?_
  intro p e s m args below meth c hx hb hr hml hts htl hown hlocks hK H locs hH hG hS hB hZ ls hl
  have hown : s.vm.findClass RX3 = some m.cls := hown
  have hl : lv_has ls 3 [(0, .ref a0), (1, .int p1), (2, .int p2)] := hl
  have hr_p1 := tk_rng p1
  have hr_p2 := tk_rng p2
  refine lv_aload_n hx hb dX3_strongest_0 rfl (lv_at hl 0 rfl) ?_
  refine lv_iconst (v := 0) hx hb dX3_strongest_1 (by decide) ?_
  refine tk_put (ci := 3) (v := .int 0) (ty := .int) (C := RX3) (T := TX3) (N := 5) (sp := (0, 0, 4, 0)) hx hb htl inX3 tyX3 tyX3_ok nmX3 hown hK hG hS ht_a0 (by decide) tk_no rfl 3 (by decide) (htl _ mw_1455) (fun _ h9 => h9) rfl (tyX3_ok 3 (by decide)) rfl rfl rfl (tk_Vi (by decide) (by decide)) (fun _ h => h) (tk_w.of ht_a0 (by decide) (List.mem_of_getElem? (i := 0) rfl) (Nat.le_refl _) (Nat.le_refl _)) dX3_strongest_2 (fun H locs hG hS hf1 hq9 hj9 => ?_)
  refine lv_aload_n hx hb dX3_strongest_5 rfl (lv_at hl 0 rfl) ?_
  refine lv_iconst (v := (-1)) hx hb dX3_strongest_6 (by decide) ?_
  refine tk_put (ci := 3) (v := .int (-1)) (ty := .int) (C := RX3) (T := TX3) (N := 5) (sp := (0, (-2147483648), 2147483647, 0)) hx hb htl inX3 tyX3 tyX3_ok nmX3 hown hK hG hS ht_a0 (by decide) tk_no rfl 4 (by decide) (htl _ mw_1456) (fun _ h9 => h9) rfl (tyX3_ok 4 (by decide)) rfl rfl rfl (tk_Vi (tk_rng _).1 (tk_rng _).2) (fun _ h => h) (tk_w.of ht_a0 (by decide) (List.mem_of_getElem? (i := 0) rfl) (Nat.le_refl _) (Nat.le_refl _)) dX3_strongest_7 (fun H locs hG hS hf3 hq9 hj9 => ?_)
  refine lv_aload_n hx hb dX3_strongest_10 rfl (lv_at hl 0 rfl) ?_
  refine lv_iconst (v := 0) hx hb dX3_strongest_11 (by decide) ?_
  refine lv_iconst (v := 0) hx hb dX3_strongest_12 (by decide) ?_
  refine lv_iconst (v := 0) hx hb dX3_strongest_13 (by decide) ?_
  refine lv_iload_n hx hb dX3_strongest_14 rfl (lv_at hl 1 rfl) ?_
  have hk_0 : (0 : Int32).toInt = 0 := by decide
  have hk_0 : (0 : Int32).toInt = 0 := by decide
  have hk_0 : (0 : Int32).toInt = 0 := by decide
  refine tk_Vv (As := [.int 0, .int 0, .int 0, .int p1]) (rest := []) (ci := 3) ⟨hx, hb, hml, hown, hts⟩ hK hG hZ hS (k_X3_joinMore_0 l D cy ld t a0 0 0 p1 ht_a0) trivial ⟨callB_of 4 hts (wl_in mw_1460) rfl rfl rfl (htl _ mw_48) (htl _ mw_1457) hd_yX3_joinMore ⟨(Nat.le_of_ble_eq_true rfl), (Nat.le_of_ble_eq_true rfl)⟩, htl _ mw_1458, htl _ mw_1459⟩ ht_a0 (by decide) tk_no rfl (tk_w.pick [1, 0, 2] rfl) rfl hl.1 rfl (Nat.le_of_ble_eq_true rfl) dX3_strongest_15 ⟨(Nat.le_of_ble_eq_true rfl), (Nat.le_of_ble_eq_true rfl)⟩ (fun H locs hpo hG hS hq9 => ?_)
  refine lv_iload_n hx hb dX3_strongest_18 rfl (lv_at hl 2 rfl) ?_
  refine lv_iconst (v := (-1)) hx hb dX3_strongest_19 (by decide) ?_
  refine lv_icmp_ne (tgt := 28) hx hb dX3_strongest_20 (by decide) (fun c9 => ?_) (fun c9 => ?_)
  · have hc6 : ¬ (p2.toInt = (-1)) := fun h9 => c9 ((fi_eq rfl (by decide)).mpr h9)
    refine lv_iload_n hx hb dX3_strongest_28 rfl (lv_at hl 2 rfl) ?_
    refine lv_iconst (v := 0) hx hb dX3_strongest_29 (by decide) ?_
    refine lv_aload_n hx hb dX3_strongest_30 rfl (lv_at hl 0 rfl) ?_
    refine tk_get (ci := 3) (C := RX3) (T := TX3) (N := 5) (sp := (0, 0, 4, 0)) hx hb htl inX3 hown hK hG ht_a0 (by decide) tk_no rfl 3 (by decide) (htl _ mw_1455) (fun _ h9 => h9) rfl dX3_strongest_31 (fun v9 hf7 hV9 => ?_)
    obtain ⟨v8, rfl, ha_v8, hb_v8⟩ := hV9
    refine lv_iconst (v := 1) hx hb dX3_strongest_34 (by decide) ?_
    refine lv_isub hx hb dX3_strongest_35 ?_
    refine tk_sub rfl (by decide) (by omega) (by omega) (fun v9 h_v9 => ?_)
    have hk_0 : (0 : Int32).toInt = 0 := by decide
    refine tk_Ni (As := [.int p2, .int 0, .int v9]) (rest := []) ⟨hx, hb, hml, hown, hts⟩ hK hG hZ hS (k_X12_within l D cy ld t _ p2 0 v9) trivial ⟨va_cnB 3 hts (wl_in mw_262) rfl rfl rfl hK.2.2.2.1.2.2.1 (htl _ mw_2) hd_yX12_within ⟨(Nat.le_of_ble_eq_true rfl), (Nat.le_of_ble_eq_true rfl)⟩, htl _ mw_261, trivial⟩ (tk_w.pick [] rfl) rfl hl.1 rfl (Nat.le_of_ble_eq_true rfl) dX3_strongest_36 ⟨(Nat.le_of_ble_eq_true rfl), (Nat.le_of_ble_eq_true rfl)⟩ (fun v10 H locs hpo hG hS hq9 => ?_)
    obtain ⟨hpo12, hpo13, hpo14, hpo15, hpo16⟩ := hpo
    have hj23 : ∀ (v22 : Int32), ∀ ls : Array Slot, lv_has ls 3 [] → W p l e ({ frames := 9, cells := 0, slots := 0, locals := 560 }) s m args below meth c H locs 0 0 (MQ below (ti D cy ld t [] (fun r H => True) (tk_w t [(4, 0, 0), (22, 0, 0), (20, 0, 0)])) args s 0 0 (tk_w t [(4, 0, 0), (22, 0, 0), (20, 0, 0)])) (F0 m 52 ls [.int v22]) := by
      intro v22  ls hl
      exact tk_iret (v := v22) hx hb hr rfl hlocks trivial hG hS dX3_strongest_52
    refine lv_if_eq (tgt := 51) hx hb dX3_strongest_39 (by decide) (fun c9 => ?_) (fun c9 => ?_)
    · have hc17 : v10.toInt = 0 := (fi_eq rfl (by decide)).mp c9
      refine lv_iconst (v := (-1)) hx hb dX3_strongest_51 (by decide) ?_
      have hk_m1 : ((-1) : Int32).toInt = (-1) := by decide
      exact hj23 (-1) _ (lv_sub hl [] rfl)
    · have hc17 : ¬ (v10.toInt = 0) := fun h9 => c9 ((fi_eq rfl (by decide)).mpr h9)
      refine lv_aload_n hx hb dX3_strongest_42 rfl (lv_at hl 0 rfl) ?_
      refine tk_get (ci := 3) (C := RX3) (T := TX3) (N := 5) (sp := (6, 20, 4, 0)) hx hb htl inX3 hown hK hG ht_a0 (by decide) tk_no rfl 2 (by decide) (htl _ mw_174) (fun _ h9 => h9) rfl dX3_strongest_43 (fun v9 hf24 hV9 => ?_)
      obtain ⟨b25, rfl, ht_b25⟩ := hV9
      have ht_b25 : t b25 = (20, 4, 0) := ht_b25
      refine lv_iload_n hx hb dX3_strongest_46 rfl (lv_at hl 2 rfl) ?_
      refine tk_iald hx hb hK hG ht_b25 (by decide) (fun _ h => h) tk_no rfl (by omega) (by omega) dX3_strongest_47 (fun v26 _ _ => ?_)
      have hr_v26 := tk_rng v26
      refine lv_goto (tgt := 52) hx hb dX3_strongest_48 (by decide) ?_
      exact hj23 v26 _ (lv_sub hl [] rfl)
  · have hc6 : p2.toInt = (-1) := (fi_eq rfl (by decide)).mp c9
    refine lv_aload_n hx hb dX3_strongest_23 rfl (lv_at hl 0 rfl) ?_
    refine tk_get (ci := 3) (C := RX3) (T := TX3) (N := 5) (sp := (0, (-2147483648), 2147483647, 0)) hx hb htl inX3 hown hK hG ht_a0 (by decide) tk_no rfl 4 (by decide) (htl _ mw_1456) (fun _ h9 => h9) rfl dX3_strongest_24 (fun v9 hf27 hV9 => ?_)
    obtain ⟨v28, rfl, ha_v28, hb_v28⟩ := hV9
    exact tk_iret (v := v28) hx hb hr rfl hlocks trivial hG hS dX3_strongest_27
theorem dX4_doBegin_0 : decode cX4_doBegin 0 = .ok (.aload_n 0, 1) := by decide +kernel
theorem dX4_doBegin_1 : decode cX4_doBegin 1 = .ok (.getfield 23, 3) := by decide +kernel
theorem dX4_doBegin_4 : decode cX4_doBegin 4 = .ok (.aload_n 1, 1) := by decide +kernel
theorem dX4_doBegin_5 : decode cX4_doBegin 5 = .ok (.aload_n 1, 1) := by decide +kernel
theorem dX4_doBegin_6 : decode cX4_doBegin 6 = .ok (.iload_n 2, 1) := by decide +kernel
theorem dX4_doBegin_7 : decode cX4_doBegin 7 = .ok (.iconst 0, 1) := by decide +kernel
theorem dX4_doBegin_8 : decode cX4_doBegin 8 = .ok (.invokevirtual 71, 3) := by decide +kernel
theorem dX4_doBegin_11 : decode cX4_doBegin 11 = .ok (.invokevirtual 53, 3) := by decide +kernel
theorem dX4_doBegin_14 : decode cX4_doBegin 14 = .ok (.istore_n 3, 1) := by decide +kernel
theorem dX4_doBegin_15 : decode cX4_doBegin 15 = .ok (.aload_n 0, 1) := by decide +kernel
theorem dX4_doBegin_16 : decode cX4_doBegin 16 = .ok (.getfield 23, 3) := by decide +kernel
theorem dX4_doBegin_19 : decode cX4_doBegin 19 = .ok (.getfield 75, 3) := by decide +kernel
theorem dX4_doBegin_22 : decode cX4_doBegin 22 = .ok (.istore 4, 2) := by decide +kernel
theorem dX4_doBegin_24 : decode cX4_doBegin 24 = .ok (.aload_n 0, 1) := by decide +kernel
theorem dX4_doBegin_25 : decode cX4_doBegin 25 = .ok (.getfield 23, 3) := by decide +kernel
theorem dX4_doBegin_28 : decode cX4_doBegin 28 = .ok (.aload_n 1, 1) := by decide +kernel
theorem dX4_doBegin_29 : decode cX4_doBegin 29 = .ok (.aload_n 1, 1) := by decide +kernel
theorem dX4_doBegin_30 : decode cX4_doBegin 30 = .ok (.iload_n 2, 1) := by decide +kernel
theorem dX4_doBegin_31 : decode cX4_doBegin 31 = .ok (.iconst 1, 1) := by decide +kernel
theorem dX4_doBegin_32 : decode cX4_doBegin 32 = .ok (.invokevirtual 71, 3) := by decide +kernel
theorem dX4_doBegin_35 : decode cX4_doBegin 35 = .ok (.invokevirtual 53, 3) := by decide +kernel
theorem dX4_doBegin_38 : decode cX4_doBegin 38 = .ok (.istore 5, 2) := by decide +kernel
theorem dX4_doBegin_40 : decode cX4_doBegin 40 = .ok (.iload 4, 2) := by decide +kernel
theorem dX4_doBegin_42 : decode cX4_doBegin 42 = .ok (.aload_n 0, 1) := by decide +kernel
theorem dX4_doBegin_43 : decode cX4_doBegin 43 = .ok (.getfield 23, 3) := by decide +kernel
theorem dX4_doBegin_46 : decode cX4_doBegin 46 = .ok (.getfield 75, 3) := by decide +kernel
theorem dX4_doBegin_49 : decode cX4_doBegin 49 = .ok (.ior, 1) := by decide +kernel
theorem dX4_doBegin_50 : decode cX4_doBegin 50 = .ok (.istore 4, 2) := by decide +kernel
theorem dX4_doBegin_52 : decode cX4_doBegin 52 = .ok (.aload_n 0, 1) := by decide +kernel
theorem dX4_doBegin_53 : decode cX4_doBegin 53 = .ok (.getfield 23, 3) := by decide +kernel
theorem dX4_doBegin_56 : decode cX4_doBegin 56 = .ok (.aload_n 1, 1) := by decide +kernel
theorem dX4_doBegin_57 : decode cX4_doBegin 57 = .ok (.aload_n 1, 1) := by decide +kernel
theorem dX4_doBegin_58 : decode cX4_doBegin 58 = .ok (.iload_n 2, 1) := by decide +kernel
theorem dX4_doBegin_59 : decode cX4_doBegin 59 = .ok (.iconst 2, 1) := by decide +kernel
theorem dX4_doBegin_60 : decode cX4_doBegin 60 = .ok (.invokevirtual 71, 3) := by decide +kernel
theorem dX4_doBegin_63 : decode cX4_doBegin 63 = .ok (.invokevirtual 53, 3) := by decide +kernel
theorem dX4_doBegin_66 : decode cX4_doBegin 66 = .ok (.istore 6, 2) := by decide +kernel
theorem dX4_doBegin_68 : decode cX4_doBegin 68 = .ok (.iload 4, 2) := by decide +kernel
theorem dX4_doBegin_70 : decode cX4_doBegin 70 = .ok (.aload_n 0, 1) := by decide +kernel
theorem dX4_doBegin_71 : decode cX4_doBegin 71 = .ok (.getfield 23, 3) := by decide +kernel
theorem dX4_doBegin_74 : decode cX4_doBegin 74 = .ok (.getfield 75, 3) := by decide +kernel
theorem dX4_doBegin_77 : decode cX4_doBegin 77 = .ok (.ior, 1) := by decide +kernel
theorem dX4_doBegin_78 : decode cX4_doBegin 78 = .ok (.istore 4, 2) := by decide +kernel
theorem dX4_doBegin_80 : decode cX4_doBegin 80 = .ok (.iload 4, 2) := by decide +kernel
theorem dX4_doBegin_102 : decode cX4_doBegin 102 = .ok (.ireturn, 1) := by decide +kernel
theorem dX4_doBegin_82 : decode cX4_doBegin 82 = .ok (.ifCond .eq 8, 3) := by decide +kernel
theorem dX4_doBegin_90 : decode cX4_doBegin 90 = .ok (.aload_n 0, 1) := by decide +kernel
theorem dX4_doBegin_91 : decode cX4_doBegin 91 = .ok (.getfield 19, 3) := by decide +kernel
theorem dX4_doBegin_94 : decode cX4_doBegin 94 = .ok (.iload_n 3, 1) := by decide +kernel
theorem dX4_doBegin_95 : decode cX4_doBegin 95 = .ok (.iload 5, 2) := by decide +kernel
theorem dX4_doBegin_97 : decode cX4_doBegin 97 = .ok (.iload 6, 2) := by decide +kernel
theorem dX4_doBegin_99 : decode cX4_doBegin 99 = .ok (.invokevirtual 90, 3) := by decide +kernel
theorem dX4_doBegin_85 : decode cX4_doBegin 85 = .ok (.bipush (-3), 2) := by decide +kernel
theorem dX4_doBegin_87 : decode cX4_doBegin 87 = .ok (.goto 15, 3) := by decide +kernel
set_option maxHeartbeats 4000000 in
set_option maxRecDepth 100000 in
theorem k_X4_doBegin (l : Launch) (D : va_G) (cy : Nat → ClassId) (ld : Nat → Nat) (t : tk_T) (a0 : Nat) (a1 : Nat) (p2 : Int32) (ht_a0 : t a0 = (5, 0, 0)) (ht_a1 : t a1 = (8, 512, 12)) (hp_0 : 0 ≤ p2.toInt) (hp_1 : p2.toInt ≤ 11) : Met l yX4_doBegin (wl yX4_doBegin cX4_doBegin 7 (some .int)) ({ frames := 7, cells := 0, slots := 0, locals := 420 }) (tp D cy ld t [] [.ref a0, .ref a1, .int p2] (fun H => True)) (ti D cy ld t [] (fun r H => (-3) ≤ r.toInt ∧ r.toInt ≤ 0) (tk_w t [(12, 0, 0), (20, 0, 0), (2, 0, 0), (20, 1, 1), (10, 1, 1), (10, 0, 0)])) 0 0 (tk_w t [(12, 0, 0), (20, 0, 0), (2, 0, 0), (20, 1, 1), (10, 1, 1), (10, 0, 0)]) := by
  refine tk_met (y := yX4_doBegin) (cc := cX4_doBegin) (maxL := 7) (ret := (some .int)) (av := [.ref a0, .ref a1, .int p2]) _ _ (by decide) (Nat.le_of_ble_eq_true rfl) ?_
  intro p e s m args below meth c hx hb hr hml hts htl hown hlocks hK H locs hH hG hS hB hZ ls hl
  have hown : s.vm.findClass RX4 = some m.cls := hown
  have hl : lv_has ls 7 [(0, .ref a0), (1, .ref a1), (2, .int p2)] := hl
  have hr_p2 := tk_rng p2
  refine lv_aload_n hx hb dX4_doBegin_0 rfl (lv_at hl 0 rfl) ?_
  refine tk_get (ci := 4) (C := RX4) (T := TX4) (N := 6) (sp := (6, 12, 0, 0)) hx hb htl inX4 hown hK hG ht_a0 (by decide) tk_no rfl 3 (by decide) (htl _ mw_124) (fun _ h9 => h9) rfl dX4_doBegin_1 (fun v9 hf1 hV9 => ?_)
  obtain ⟨b2, rfl, ht_b2⟩ := hV9
  have ht_b2 : t b2 = (12, 0, 0) := ht_b2
  refine lv_aload_n hx hb dX4_doBegin_4 rfl (lv_at hl 1 rfl) ?_
  refine lv_aload_n hx hb dX4_doBegin_5 rfl (lv_at hl 1 rfl) ?_
  refine lv_iload_n hx hb dX4_doBegin_6 rfl (lv_at hl 2 rfl) ?_
  refine lv_iconst (v := 0) hx hb dX4_doBegin_7 (by decide) ?_
  have hk_0 : (0 : Int32).toInt = 0 := by decide
  refine tk_Vi (As := [.int p2, .int 0]) (rest := [.ref a1, .ref b2]) (ci := 7) ⟨hx, hb, hml, hown, hts⟩ hK hG hZ hS (k_X7_sumOf l D cy ld t 512 12 a1 p2 0 ht_a1) trivial ⟨callB_of 2 hts (wl_in mw_869) rfl rfl rfl (htl _ mw_131) (htl _ mw_866) hd_yX7_sumOf ⟨(Nat.le_of_ble_eq_true rfl), (Nat.le_of_ble_eq_true rfl)⟩, htl _ mw_867, htl _ mw_868⟩ ht_a1 (by decide) tk_no rfl (tk_w.pick [] rfl) rfl hl.1 rfl (Nat.le_of_ble_eq_true rfl) dX4_doBegin_8 ⟨(Nat.le_of_ble_eq_true rfl), (Nat.le_of_ble_eq_true rfl)⟩ (fun v3 H locs hpo hG hS hq9 => ?_)
  refine tk_Vi (As := [.ref a1, .int v3]) (rest := []) (ci := 11) ⟨hx, hb, hml, hown, hts⟩ hK hG hZ hS (k_X11_workOut l D cy ld t 512 12 b2 a1 v3 ht_b2 ht_a1) trivial ⟨callB_of 2 hts (wl_in mw_849) rfl rfl rfl (htl _ mw_95) (htl _ mw_846) hd_yX11_workOut ⟨(Nat.le_of_ble_eq_true rfl), (Nat.le_of_ble_eq_true rfl)⟩, htl _ mw_847, htl _ mw_848⟩ ht_b2 (by decide) tk_no rfl (tk_w.pick [0, 1] rfl) rfl hl.1 rfl (Nat.le_of_ble_eq_true rfl) dX4_doBegin_11 ⟨(Nat.le_of_ble_eq_true rfl), (Nat.le_of_ble_eq_true rfl)⟩ (fun v5 H locs hpo hG hS hq9 => ?_)
  refine lv_istore_n (lv' := [(3, .int v5), (0, .ref a0), (1, .ref a1), (2, .int p2)]) hx hb dX4_doBegin_14 rfl hl (by decide) rfl (fun ls hl => ?_)
  refine lv_aload_n hx hb dX4_doBegin_15 rfl (lv_at hl 1 rfl) ?_
  refine tk_get (ci := 4) (C := RX4) (T := TX4) (N := 6) (sp := (6, 12, 0, 0)) hx hb htl inX4 hown hK hG ht_a0 (by decide) tk_no rfl 3 (by decide) (htl _ mw_124) (fun _ h9 => h9) rfl dX4_doBegin_16 (fun v9 hf7 hV9 => ?_)
  obtain ⟨b8, rfl, ht_b8⟩ := hV9
  have ht_b8 : t b8 = (12, 0, 0) := ht_b8
  refine tk_get (ci := 11) (C := RX11) (T := TX11) (N := 3) (sp := (0, 0, 1, 0)) hx hb htl inX11 hown hK hG ht_b8 (by decide) tk_no rfl 1 (by decide) (htl _ mw_861) (fun _ h9 => h9) rfl dX4_doBegin_19 (fun v9 hf9 hV9 => ?_)
  obtain ⟨v10, rfl, ha_v10, hb_v10⟩ := hV9
  refine lv_istore (lv' := [(4, .int v10), (3, .int v5), (0, .ref a0), (1, .ref a1), (2, .int p2)]) hx hb dX4_doBegin_22 hl (by decide) rfl (fun ls hl => ?_)
  refine lv_aload_n hx hb dX4_doBegin_24 rfl (lv_at hl 2 rfl) ?_
  refine tk_get (ci := 4) (C := RX4) (T := TX4) (N := 6) (sp := (6, 12, 0, 0)) hx hb htl inX4 hown hK hG ht_a0 (by decide) tk_no rfl 3 (by decide) (htl _ mw_124) (fun _ h9 => h9) rfl dX4_doBegin_25 (fun v9 hf11 hV9 => ?_)
  obtain ⟨b12, rfl, ht_b12⟩ := hV9
  have ht_b12 : t b12 = (12, 0, 0) := ht_b12
  refine lv_aload_n hx hb dX4_doBegin_28 rfl (lv_at hl 3 rfl) ?_
  refine lv_aload_n hx hb dX4_doBegin_29 rfl (lv_at hl 3 rfl) ?_
  refine lv_iload_n hx hb dX4_doBegin_30 rfl (lv_at hl 4 rfl) ?_
  refine lv_iconst (v := 1) hx hb dX4_doBegin_31 (by decide) ?_
  have hk_1 : (1 : Int32).toInt = 1 := by decide
  refine tk_Vi (As := [.int p2, .int 1]) (rest := [.ref a1, .ref b12]) (ci := 7) ⟨hx, hb, hml, hown, hts⟩ hK hG hZ hS (k_X7_sumOf l D cy ld t 512 12 a1 p2 1 ht_a1) trivial ⟨callB_of 2 hts (wl_in mw_869) rfl rfl rfl (htl _ mw_131) (htl _ mw_866) hd_yX7_sumOf ⟨(Nat.le_of_ble_eq_true rfl), (Nat.le_of_ble_eq_true rfl)⟩, htl _ mw_867, htl _ mw_868⟩ ht_a1 (by decide) tk_no rfl (tk_w.pick [] rfl) rfl hl.1 rfl (Nat.le_of_ble_eq_true rfl) dX4_doBegin_32 ⟨(Nat.le_of_ble_eq_true rfl), (Nat.le_of_ble_eq_true rfl)⟩ (fun v13 H locs hpo hG hS hq9 => ?_)
  refine tk_Vi (As := [.ref a1, .int v13]) (rest := []) (ci := 11) ⟨hx, hb, hml, hown, hts⟩ hK hG hZ hS (k_X11_workOut l D cy ld t 512 12 b12 a1 v13 ht_b12 ht_a1) trivial ⟨callB_of 2 hts (wl_in mw_849) rfl rfl rfl (htl _ mw_95) (htl _ mw_846) hd_yX11_workOut ⟨(Nat.le_of_ble_eq_true rfl), (Nat.le_of_ble_eq_true rfl)⟩, htl _ mw_847, htl _ mw_848⟩ ht_b12 (by decide) tk_no rfl (tk_w.pick [0, 1] rfl) rfl hl.1 rfl (Nat.le_of_ble_eq_true rfl) dX4_doBegin_35 ⟨(Nat.le_of_ble_eq_true rfl), (Nat.le_of_ble_eq_true rfl)⟩ (fun v15 H locs hpo hG hS hq9 => ?_)
  refine lv_istore (lv' := [(5, .int v15), (4, .int v10), (3, .int v5), (0, .ref a0), (1, .ref a1), (2, .int p2)]) hx hb dX4_doBegin_38 hl (by decide) rfl (fun ls hl => ?_)
  refine lv_iload hx hb dX4_doBegin_40 (lv_at hl 1 rfl) ?_
  refine lv_aload_n hx hb dX4_doBegin_42 rfl (lv_at hl 3 rfl) ?_
  refine tk_get (ci := 4) (C := RX4) (T := TX4) (N := 6) (sp := (6, 12, 0, 0)) hx hb htl inX4 hown hK hG ht_a0 (by decide) tk_no rfl 3 (by decide) (htl _ mw_124) (fun _ h9 => h9) rfl dX4_doBegin_43 (fun v9 hf17 hV9 => ?_)
  obtain ⟨b18, rfl, ht_b18⟩ := hV9
  have ht_b18 : t b18 = (12, 0, 0) := ht_b18
  refine tk_get (ci := 11) (C := RX11) (T := TX11) (N := 3) (sp := (0, 0, 1, 0)) hx hb htl inX11 hown hK hG ht_b18 (by decide) tk_no rfl 1 (by decide) (htl _ mw_861) (fun _ h9 => h9) rfl dX4_doBegin_46 (fun v9 hf19 hV9 => ?_)
  obtain ⟨v20, rfl, ha_v20, hb_v20⟩ := hV9
  refine lv_ior hx hb dX4_doBegin_49 ?_
  refine tk_any (fun v21 => ?_)
  refine lv_istore (lv' := [(4, .int v21), (5, .int v15), (3, .int v5), (0, .ref a0), (1, .ref a1), (2, .int p2)]) hx hb dX4_doBegin_50 hl (by decide) rfl (fun ls hl => ?_)
  refine lv_aload_n hx hb dX4_doBegin_52 rfl (lv_at hl 3 rfl) ?_
  refine tk_get (ci := 4) (C := RX4) (T := TX4) (N := 6) (sp := (6, 12, 0, 0)) hx hb htl inX4 hown hK hG ht_a0 (by decide) tk_no rfl 3 (by decide) (htl _ mw_124) (fun _ h9 => h9) rfl dX4_doBegin_53 (fun v9 hf22 hV9 => ?_)
  obtain ⟨b23, rfl, ht_b23⟩ := hV9
  have ht_b23 : t b23 = (12, 0, 0) := ht_b23
  refine lv_aload_n hx hb dX4_doBegin_56 rfl (lv_at hl 4 rfl) ?_
  refine lv_aload_n hx hb dX4_doBegin_57 rfl (lv_at hl 4 rfl) ?_
  refine lv_iload_n hx hb dX4_doBegin_58 rfl (lv_at hl 5 rfl) ?_
  refine lv_iconst (v := 2) hx hb dX4_doBegin_59 (by decide) ?_
  have hk_2 : (2 : Int32).toInt = 2 := by decide
  refine tk_Vi (As := [.int p2, .int 2]) (rest := [.ref a1, .ref b23]) (ci := 7) ⟨hx, hb, hml, hown, hts⟩ hK hG hZ hS (k_X7_sumOf l D cy ld t 512 12 a1 p2 2 ht_a1) trivial ⟨callB_of 2 hts (wl_in mw_869) rfl rfl rfl (htl _ mw_131) (htl _ mw_866) hd_yX7_sumOf ⟨(Nat.le_of_ble_eq_true rfl), (Nat.le_of_ble_eq_true rfl)⟩, htl _ mw_867, htl _ mw_868⟩ ht_a1 (by decide) tk_no rfl (tk_w.pick [] rfl) rfl hl.1 rfl (Nat.le_of_ble_eq_true rfl) dX4_doBegin_60 ⟨(Nat.le_of_ble_eq_true rfl), (Nat.le_of_ble_eq_true rfl)⟩ (fun v24 H locs hpo hG hS hq9 => ?_)
  refine tk_Vi (As := [.ref a1, .int v24]) (rest := []) (ci := 11) ⟨hx, hb, hml, hown, hts⟩ hK hG hZ hS (k_X11_workOut l D cy ld t 512 12 b23 a1 v24 ht_b23 ht_a1) trivial ⟨callB_of 2 hts (wl_in mw_849) rfl rfl rfl (htl _ mw_95) (htl _ mw_846) hd_yX11_workOut ⟨(Nat.le_of_ble_eq_true rfl), (Nat.le_of_ble_eq_true rfl)⟩, htl _ mw_847, htl _ mw_848⟩ ht_b23 (by decide) tk_no rfl (tk_w.pick [0, 1] rfl) rfl hl.1 rfl (Nat.le_of_ble_eq_true rfl) dX4_doBegin_63 ⟨(Nat.le_of_ble_eq_true rfl), (Nat.le_of_ble_eq_true rfl)⟩ (fun v26 H locs hpo hG hS hq9 => ?_)
  refine lv_istore (lv' := [(6, .int v26), (4, .int v21), (5, .int v15), (3, .int v5), (0, .ref a0), (1, .ref a1), (2, .int p2)]) hx hb dX4_doBegin_66 hl (by decide) rfl (fun ls hl => ?_)
  refine lv_iload hx hb dX4_doBegin_68 (lv_at hl 1 rfl) ?_
  refine lv_aload_n hx hb dX4_doBegin_70 rfl (lv_at hl 4 rfl) ?_
  refine tk_get (ci := 4) (C := RX4) (T := TX4) (N := 6) (sp := (6, 12, 0, 0)) hx hb htl inX4 hown hK hG ht_a0 (by decide) tk_no rfl 3 (by decide) (htl _ mw_124) (fun _ h9 => h9) rfl dX4_doBegin_71 (fun v9 hf28 hV9 => ?_)
  obtain ⟨b29, rfl, ht_b29⟩ := hV9
  have ht_b29 : t b29 = (12, 0, 0) := ht_b29
  refine tk_get (ci := 11) (C := RX11) (T := TX11) (N := 3) (sp := (0, 0, 1, 0)) hx hb htl inX11 hown hK hG ht_b29 (by decide) tk_no rfl 1 (by decide) (htl _ mw_861) (fun _ h9 => h9) rfl dX4_doBegin_74 (fun v9 hf30 hV9 => ?_)
  obtain ⟨v31, rfl, ha_v31, hb_v31⟩ := hV9
  refine lv_ior hx hb dX4_doBegin_77 ?_
  refine tk_any (fun v32 => ?_)
  refine lv_istore (lv' := [(4, .int v32), (6, .int v26), (5, .int v15), (3, .int v5), (0, .ref a0), (1, .ref a1), (2, .int p2)]) hx hb dX4_doBegin_78 hl (by decide) rfl (fun ls hl => ?_)
  refine lv_iload hx hb dX4_doBegin_80 (lv_at hl 0 rfl) ?_
  have hj44 : ∀ (v42 : Int32) (H : Heap) (locs : List Loc), (-3) ≤ v42.toInt → v42.toInt ≤ 0 → tk_G D cy ld t [] H → va_S (tk_w t [(12, 0, 0), (20, 0, 0), (2, 0, 0), (20, 1, 1), (10, 1, 1), (10, 0, 0)]) s.heap H locs → ∀ ls : Array Slot, lv_has ls 7 [] → W p l e ({ frames := 7, cells := 0, slots := 0, locals := 420 }) s m args below meth c H locs 0 0 (MQ below (ti D cy ld t [] (fun r H => (-3) ≤ r.toInt ∧ r.toInt ≤ 0) (tk_w t [(12, 0, 0), (20, 0, 0), (2, 0, 0), (20, 1, 1), (10, 1, 1), (10, 0, 0)])) args s 0 0 (tk_w t [(12, 0, 0), (20, 0, 0), (2, 0, 0), (20, 1, 1), (10, 1, 1), (10, 0, 0)])) (F0 m 102 ls [.int v42]) := by
    intro v42 H locs hq0_j44 hq1_j44 hG hS ls hl
    exact tk_iret (v := v42) hx hb hr rfl hlocks (show (-3) ≤ v42.toInt ∧ v42.toInt ≤ 0 from ⟨(by omega), (by omega)⟩) hG hS dX4_doBegin_102
  refine lv_if_eq (tgt := 90) hx hb dX4_doBegin_82 (by decide) (fun c9 => ?_) (fun c9 => ?_)
  · have hc33 : v32.toInt = 0 := (fi_eq rfl (by decide)).mp c9
    refine lv_aload_n hx hb dX4_doBegin_90 rfl (lv_at hl 4 rfl) ?_
    refine tk_get (ci := 4) (C := RX4) (T := TX4) (N := 6) (sp := (6, 2, 0, 0)) hx hb htl inX4 hown hK hG ht_a0 (by decide) tk_no rfl 2 (by decide) (htl _ mw_123) (fun _ h9 => h9) rfl dX4_doBegin_91 (fun v9 hf45 hV9 => ?_)
    obtain ⟨b46, rfl, ht_b46⟩ := hV9
    have ht_b46 : t b46 = (2, 0, 0) := ht_b46
    refine lv_iload_n hx hb dX4_doBegin_94 rfl (lv_at hl 3 rfl) ?_
    refine lv_iload hx hb dX4_doBegin_95 (lv_at hl 2 rfl) ?_
    refine lv_iload hx hb dX4_doBegin_97 (lv_at hl 1 rfl) ?_
    refine tk_Vi (As := [.int v5, .int v15, .int v26]) (rest := []) (ci := 1) ⟨hx, hb, hml, hown, hts⟩ hK hG hZ hS (k_X1_openDuel l D cy ld t b46 v5 v15 v26 ht_b46) trivial ⟨callB_of 3 hts (wl_in mw_873) rfl rfl rfl (htl _ mw_25) (htl _ mw_870) hd_yX1_openDuel ⟨(Nat.le_of_ble_eq_true rfl), (Nat.le_of_ble_eq_true rfl)⟩, htl _ mw_871, htl _ mw_872⟩ ht_b46 (by decide) tk_no rfl (tk_w.pick [2, 3, 4, 1, 5] rfl) rfl hl.1 rfl (Nat.le_of_ble_eq_true rfl) dX4_doBegin_99 ⟨(Nat.le_of_ble_eq_true rfl), (Nat.le_of_ble_eq_true rfl)⟩ (fun v47 H locs hpo hG hS hq9 => ?_)
    obtain ⟨hpo49, hpo50⟩ := hpo
    exact hj44 v47 _ _ (by omega) (by omega) hG hS _ (lv_sub hl [] rfl)
  · have hc33 : ¬ (v32.toInt = 0) := fun h9 => c9 ((fi_eq rfl (by decide)).mpr h9)
    refine lv_bipush (v := (-3)) hx hb dX4_doBegin_85 (by decide) ?_
    refine lv_goto (tgt := 102) hx hb dX4_doBegin_87 (by decide) ?_
    have hk_m3 : ((-3) : Int32).toInt = (-3) := by decide
    exact hj44 (-3) _ _ (by omega) (by omega) hG hS _ (lv_sub hl [] rfl)
theorem dX4_doDeed_0 : decode cX4_doDeed 0 = .ok (.aload_n 1, 1) := by decide +kernel
theorem dX4_doDeed_1 : decode cX4_doDeed 1 = .ok (.getfield 65, 3) := by decide +kernel
theorem dX4_doDeed_4 : decode cX4_doDeed 4 = .ok (.iload_n 2, 1) := by decide +kernel
theorem dX4_doDeed_5 : decode cX4_doDeed 5 = .ok (.iaload, 1) := by decide +kernel
theorem dX4_doDeed_6 : decode cX4_doDeed 6 = .ok (.istore_n 3, 1) := by decide +kernel
theorem dX4_doDeed_7 : decode cX4_doDeed 7 = .ok (.iload_n 3, 1) := by decide +kernel
theorem dX4_doDeed_8 : decode cX4_doDeed 8 = .ok (.ifCond .ne 10, 3) := by decide +kernel
theorem dX4_doDeed_18 : decode cX4_doDeed 18 = .ok (.iload_n 3, 1) := by decide +kernel
theorem dX4_doDeed_19 : decode cX4_doDeed 19 = .ok (.iconst 1, 1) := by decide +kernel
theorem dX4_doDeed_20 : decode cX4_doDeed 20 = .ok (.if_icmp .ne 50, 3) := by decide +kernel
theorem dX4_doDeed_70 : decode cX4_doDeed 70 = .ok (.iload_n 3, 1) := by decide +kernel
theorem dX4_doDeed_71 : decode cX4_doDeed 71 = .ok (.iconst 2, 1) := by decide +kernel
theorem dX4_doDeed_92 : decode cX4_doDeed 92 = .ok (.ireturn, 1) := by decide +kernel
theorem dX4_doDeed_72 : decode cX4_doDeed 72 = .ok (.if_icmp .ne 13, 3) := by decide +kernel
theorem dX4_doDeed_85 : decode cX4_doDeed 85 = .ok (.aload_n 0, 1) := by decide +kernel
theorem dX4_doDeed_86 : decode cX4_doDeed 86 = .ok (.getfield 19, 3) := by decide +kernel
theorem dX4_doDeed_89 : decode cX4_doDeed 89 = .ok (.invokevirtual 87, 3) := by decide +kernel
theorem dX4_doDeed_75 : decode cX4_doDeed 75 = .ok (.aload_n 0, 1) := by decide +kernel
theorem dX4_doDeed_76 : decode cX4_doDeed 76 = .ok (.getfield 19, 3) := by decide +kernel
theorem dX4_doDeed_79 : decode cX4_doDeed 79 = .ok (.invokevirtual 83, 3) := by decide +kernel
theorem dX4_doDeed_82 : decode cX4_doDeed 82 = .ok (.goto 10, 3) := by decide +kernel
theorem dX4_doDeed_23 : decode cX4_doDeed 23 = .ok (.aload_n 0, 1) := by decide +kernel
theorem dX4_doDeed_24 : decode cX4_doDeed 24 = .ok (.getfield 23, 3) := by decide +kernel
theorem dX4_doDeed_27 : decode cX4_doDeed 27 = .ok (.aload_n 1, 1) := by decide +kernel
theorem dX4_doDeed_28 : decode cX4_doDeed 28 = .ok (.aload_n 1, 1) := by decide +kernel
theorem dX4_doDeed_29 : decode cX4_doDeed 29 = .ok (.iload_n 2, 1) := by decide +kernel
theorem dX4_doDeed_30 : decode cX4_doDeed 30 = .ok (.iconst 0, 1) := by decide +kernel
theorem dX4_doDeed_31 : decode cX4_doDeed 31 = .ok (.invokevirtual 71, 3) := by decide +kernel
theorem dX4_doDeed_34 : decode cX4_doDeed 34 = .ok (.invokevirtual 53, 3) := by decide +kernel
theorem dX4_doDeed_37 : decode cX4_doDeed 37 = .ok (.istore 4, 2) := by decide +kernel
theorem dX4_doDeed_39 : decode cX4_doDeed 39 = .ok (.aload_n 0, 1) := by decide +kernel
theorem dX4_doDeed_40 : decode cX4_doDeed 40 = .ok (.getfield 23, 3) := by decide +kernel
theorem dX4_doDeed_43 : decode cX4_doDeed 43 = .ok (.getfield 75, 3) := by decide +kernel
theorem dX4_doDeed_46 : decode cX4_doDeed 46 = .ok (.ifCond .eq 6, 3) := by decide +kernel
theorem dX4_doDeed_52 : decode cX4_doDeed 52 = .ok (.aload_n 0, 1) := by decide +kernel
theorem dX4_doDeed_53 : decode cX4_doDeed 53 = .ok (.aload_n 0, 1) := by decide +kernel
theorem dX4_doDeed_54 : decode cX4_doDeed 54 = .ok (.getfield 19, 3) := by decide +kernel
theorem dX4_doDeed_57 : decode cX4_doDeed 57 = .ok (.iload 4, 2) := by decide +kernel
theorem dX4_doDeed_59 : decode cX4_doDeed 59 = .ok (.invokevirtual 79, 3) := by decide +kernel
theorem dX4_doDeed_62 : decode cX4_doDeed 62 = .ok (.putfield 35, 3) := by decide +kernel
theorem dX4_doDeed_65 : decode cX4_doDeed 65 = .ok (.aload_n 0, 1) := by decide +kernel
theorem dX4_doDeed_66 : decode cX4_doDeed 66 = .ok (.getfield 35, 3) := by decide +kernel
theorem dX4_doDeed_69 : decode cX4_doDeed 69 = .ok (.ireturn, 1) := by decide +kernel
theorem dX4_doDeed_49 : decode cX4_doDeed 49 = .ok (.bipush (-3), 2) := by decide +kernel
theorem dX4_doDeed_51 : decode cX4_doDeed 51 = .ok (.ireturn, 1) := by decide +kernel
theorem dX4_doDeed_11 : decode cX4_doDeed 11 = .ok (.aload_n 0, 1) := by decide +kernel
theorem dX4_doDeed_12 : decode cX4_doDeed 12 = .ok (.aload_n 1, 1) := by decide +kernel
theorem dX4_doDeed_13 : decode cX4_doDeed 13 = .ok (.iload_n 2, 1) := by decide +kernel
theorem dX4_doDeed_14 : decode cX4_doDeed 14 = .ok (.invokevirtual 68, 3) := by decide +kernel
theorem dX4_doDeed_17 : decode cX4_doDeed 17 = .ok (.ireturn, 1) := by decide +kernel
set_option maxHeartbeats 4000000 in
set_option maxRecDepth 100000 in
theorem k_X4_doDeed (l : Launch) (D : va_G) (cy : Nat → ClassId) (ld : Nat → Nat) (t : tk_T) (a0 : Nat) (a1 : Nat) (p2 : Int32) (ht_a0 : t a0 = (5, 0, 0)) (ht_a1 : t a1 = (8, 512, 12)) (hp_0 : 0 ≤ p2.toInt) (hp_1 : p2.toInt ≤ 11) : Met l yX4_doDeed (wl yX4_doDeed cX4_doDeed 5 (some .int)) ({ frames := 8, cells := 0, slots := 0, locals := 490 }) (tp D cy ld t [] [.ref a0, .ref a1, .int p2] (fun H => True)) (ti D cy ld t [] (fun r H => True) (tk_w t [(2, 0, 0), (20, 1, 1), (10, 1, 1), (20, 0, 0), (10, 0, 0), (12, 0, 0), (9, 0, 0), (5, 0, 0)])) 0 0 (tk_w t [(2, 0, 0), (20, 1, 1), (10, 1, 1), (20, 0, 0), (10, 0, 0), (12, 0, 0), (9, 0, 0), (5, 0, 0)]) := by
  refine tk_met (y := yX4_doDeed) (cc := cX4_doDeed) (maxL := 5) (ret := (some .int)) (av := [.ref a0, .ref a1, .int p2]) _ _ (by decide) (Nat.le_of_ble_eq_true rfl) ?_
  intro p e s m args below meth c hx hb hr hml hts htl hown hlocks hK H locs hH hG hS hB hZ ls hl
  have hown : s.vm.findClass RX4 = some m.cls := hown
  have hl : lv_has ls 5 [(0, .ref a0), (1, .ref a1), (2, .int p2)] := hl
  have hr_p2 := tk_rng p2
  refine lv_aload_n hx hb dX4_doDeed_0 rfl (lv_at hl 1 rfl) ?_
  refine tk_get (ci := 7) (C := RX7) (T := TX7) (N := 10) (sp := (3, 20, 1, 0)) hx hb htl inX7 hown hK hG ht_a1 (by decide) tk_no rfl 2 (by decide) (htl _ mw_860) (fun _ h9 => h9) rfl dX4_doDeed_1 (fun v9 hf1 hV9 => ?_)
  obtain ⟨b2, rfl, ht_b2⟩ := hV9
  have ht_b2 : t b2 = (20, 12, 0) := ht_b2
  refine lv_iload_n hx hb dX4_doDeed_4 rfl (lv_at hl 2 rfl) ?_
  refine tk_iald hx hb hK hG ht_b2 (by decide) (fun _ h => h) tk_no rfl (by omega) (by omega) dX4_doDeed_5 (fun v3 _ _ => ?_)
  have hr_v3 := tk_rng v3
  refine lv_istore_n (lv' := [(3, .int v3), (0, .ref a0), (1, .ref a1), (2, .int p2)]) hx hb dX4_doDeed_6 rfl hl (by decide) rfl (fun ls hl => ?_)
  refine lv_iload_n hx hb dX4_doDeed_7 rfl (lv_at hl 0 rfl) ?_
  refine lv_if_ne (tgt := 18) hx hb dX4_doDeed_8 (by decide) (fun c9 => ?_) (fun c9 => ?_)
  · have hc4 : ¬ (v3.toInt = 0) := fun h9 => c9 ((fi_eq rfl (by decide)).mpr h9)
    refine lv_iload_n hx hb dX4_doDeed_18 rfl (lv_at hl 0 rfl) ?_
    refine lv_iconst (v := 1) hx hb dX4_doDeed_19 (by decide) ?_
    refine lv_icmp_ne (tgt := 70) hx hb dX4_doDeed_20 (by decide) (fun c9 => ?_) (fun c9 => ?_)
    · have hc5 : ¬ (v3.toInt = 1) := fun h9 => c9 ((fi_eq rfl (by decide)).mpr h9)
      refine lv_iload_n hx hb dX4_doDeed_70 rfl (lv_at hl 0 rfl) ?_
      refine lv_iconst (v := 2) hx hb dX4_doDeed_71 (by decide) ?_
      have hj19 : ∀ (v17 : Int32) (H : Heap) (locs : List Loc), tk_G D cy ld t [] H → va_S (tk_w t [(2, 0, 0), (20, 1, 1), (10, 1, 1), (20, 0, 0), (10, 0, 0), (12, 0, 0), (9, 0, 0), (5, 0, 0)]) s.heap H locs → ∀ ls : Array Slot, lv_has ls 5 [] → W p l e ({ frames := 8, cells := 0, slots := 0, locals := 490 }) s m args below meth c H locs 0 0 (MQ below (ti D cy ld t [] (fun r H => True) (tk_w t [(2, 0, 0), (20, 1, 1), (10, 1, 1), (20, 0, 0), (10, 0, 0), (12, 0, 0), (9, 0, 0), (5, 0, 0)])) args s 0 0 (tk_w t [(2, 0, 0), (20, 1, 1), (10, 1, 1), (20, 0, 0), (10, 0, 0), (12, 0, 0), (9, 0, 0), (5, 0, 0)])) (F0 m 92 ls [.int v17]) := by
        intro v17 H locs hG hS ls hl
        exact tk_iret (v := v17) hx hb hr rfl hlocks trivial hG hS dX4_doDeed_92
      refine lv_icmp_ne (tgt := 85) hx hb dX4_doDeed_72 (by decide) (fun c9 => ?_) (fun c9 => ?_)
      · have hc6 : ¬ (v3.toInt = 2) := fun h9 => c9 ((fi_eq rfl (by decide)).mpr h9)
        refine lv_aload_n hx hb dX4_doDeed_85 rfl (lv_at hl 1 rfl) ?_
        refine tk_get (ci := 4) (C := RX4) (T := TX4) (N := 6) (sp := (6, 2, 0, 0)) hx hb htl inX4 hown hK hG ht_a0 (by decide) tk_no rfl 2 (by decide) (htl _ mw_123) (fun _ h9 => h9) rfl dX4_doDeed_86 (fun v9 hf20 hV9 => ?_)
        obtain ⟨b21, rfl, ht_b21⟩ := hV9
        have ht_b21 : t b21 = (2, 0, 0) := ht_b21
        refine tk_Vi (As := []) (rest := []) (ci := 1) ⟨hx, hb, hml, hown, hts⟩ hK hG hZ hS (k_X1_nextDay l D cy ld t b21 ht_b21) trivial ⟨callB_of 0 hts (wl_in mw_990) rfl rfl rfl (htl _ mw_25) (htl _ mw_987) hd_yX1_nextDay ⟨(Nat.le_of_ble_eq_true rfl), (Nat.le_of_ble_eq_true rfl)⟩, htl _ mw_988, htl _ mw_989⟩ ht_b21 (by decide) tk_no rfl (tk_w.pick [0, 1, 2, 3, 4, 5, 6] rfl) rfl hl.1 rfl (Nat.le_of_ble_eq_true rfl) dX4_doDeed_89 ⟨(Nat.le_of_ble_eq_true rfl), (Nat.le_of_ble_eq_true rfl)⟩ (fun v22 H locs hpo hG hS hq9 => ?_)
        exact hj19 v22 _ _ hG hS _ (lv_sub hl [] rfl)
      · have hc6 : v3.toInt = 2 := (fi_eq rfl (by decide)).mp c9
        refine lv_aload_n hx hb dX4_doDeed_75 rfl (lv_at hl 1 rfl) ?_
        refine tk_get (ci := 4) (C := RX4) (T := TX4) (N := 6) (sp := (6, 2, 0, 0)) hx hb htl inX4 hown hK hG ht_a0 (by decide) tk_no rfl 2 (by decide) (htl _ mw_123) (fun _ h9 => h9) rfl dX4_doDeed_76 (fun v9 hf24 hV9 => ?_)
        obtain ⟨b25, rfl, ht_b25⟩ := hV9
        have ht_b25 : t b25 = (2, 0, 0) := ht_b25
        refine tk_Vi (As := []) (rest := []) (ci := 1) ⟨hx, hb, hml, hown, hts⟩ hK hG hZ hS (k_X1_leaveDuel l D cy ld t b25 ht_b25) trivial ⟨callB_of 0 hts (wl_in mw_984) rfl rfl rfl (htl _ mw_25) (htl _ mw_981) hd_yX1_leaveDuel ⟨(Nat.le_of_ble_eq_true rfl), (Nat.le_of_ble_eq_true rfl)⟩, htl _ mw_982, htl _ mw_983⟩ ht_b25 (by decide) tk_no rfl (tk_w.pick [0, 1, 2, 3, 4] rfl) rfl hl.1 rfl (Nat.le_of_ble_eq_true rfl) dX4_doDeed_79 ⟨(Nat.le_of_ble_eq_true rfl), (Nat.le_of_ble_eq_true rfl)⟩ (fun v26 H locs hpo hG hS hq9 => ?_)
        refine lv_goto (tgt := 92) hx hb dX4_doDeed_82 (by decide) ?_
        exact hj19 v26 _ _ hG hS _ (lv_sub hl [] rfl)
    · have hc5 : v3.toInt = 1 := (fi_eq rfl (by decide)).mp c9
      refine lv_aload_n hx hb dX4_doDeed_23 rfl (lv_at hl 1 rfl) ?_
      refine tk_get (ci := 4) (C := RX4) (T := TX4) (N := 6) (sp := (6, 12, 0, 0)) hx hb htl inX4 hown hK hG ht_a0 (by decide) tk_no rfl 3 (by decide) (htl _ mw_124) (fun _ h9 => h9) rfl dX4_doDeed_24 (fun v9 hf28 hV9 => ?_)
      obtain ⟨b29, rfl, ht_b29⟩ := hV9
      have ht_b29 : t b29 = (12, 0, 0) := ht_b29
      refine lv_aload_n hx hb dX4_doDeed_27 rfl (lv_at hl 2 rfl) ?_
      refine lv_aload_n hx hb dX4_doDeed_28 rfl (lv_at hl 2 rfl) ?_
      refine lv_iload_n hx hb dX4_doDeed_29 rfl (lv_at hl 3 rfl) ?_
      refine lv_iconst (v := 0) hx hb dX4_doDeed_30 (by decide) ?_
      have hk_0 : (0 : Int32).toInt = 0 := by decide
      refine tk_Vi (As := [.int p2, .int 0]) (rest := [.ref a1, .ref b29]) (ci := 7) ⟨hx, hb, hml, hown, hts⟩ hK hG hZ hS (k_X7_sumOf l D cy ld t 512 12 a1 p2 0 ht_a1) trivial ⟨callB_of 2 hts (wl_in mw_869) rfl rfl rfl (htl _ mw_131) (htl _ mw_866) hd_yX7_sumOf ⟨(Nat.le_of_ble_eq_true rfl), (Nat.le_of_ble_eq_true rfl)⟩, htl _ mw_867, htl _ mw_868⟩ ht_a1 (by decide) tk_no rfl (tk_w.pick [] rfl) rfl hl.1 rfl (Nat.le_of_ble_eq_true rfl) dX4_doDeed_31 ⟨(Nat.le_of_ble_eq_true rfl), (Nat.le_of_ble_eq_true rfl)⟩ (fun v30 H locs hpo hG hS hq9 => ?_)
      refine tk_Vi (As := [.ref a1, .int v30]) (rest := []) (ci := 11) ⟨hx, hb, hml, hown, hts⟩ hK hG hZ hS (k_X11_workOut l D cy ld t 512 12 b29 a1 v30 ht_b29 ht_a1) trivial ⟨callB_of 2 hts (wl_in mw_849) rfl rfl rfl (htl _ mw_95) (htl _ mw_846) hd_yX11_workOut ⟨(Nat.le_of_ble_eq_true rfl), (Nat.le_of_ble_eq_true rfl)⟩, htl _ mw_847, htl _ mw_848⟩ ht_b29 (by decide) tk_no rfl (tk_w.pick [5, 3] rfl) rfl hl.1 rfl (Nat.le_of_ble_eq_true rfl) dX4_doDeed_34 ⟨(Nat.le_of_ble_eq_true rfl), (Nat.le_of_ble_eq_true rfl)⟩ (fun v32 H locs hpo hG hS hq9 => ?_)
      refine lv_istore (lv' := [(4, .int v32), (3, .int v3), (0, .ref a0), (1, .ref a1), (2, .int p2)]) hx hb dX4_doDeed_37 hl (by decide) rfl (fun ls hl => ?_)
      refine lv_aload_n hx hb dX4_doDeed_39 rfl (lv_at hl 2 rfl) ?_
      refine tk_get (ci := 4) (C := RX4) (T := TX4) (N := 6) (sp := (6, 12, 0, 0)) hx hb htl inX4 hown hK hG ht_a0 (by decide) tk_no rfl 3 (by decide) (htl _ mw_124) (fun _ h9 => h9) rfl dX4_doDeed_40 (fun v9 hf34 hV9 => ?_)
      obtain ⟨b35, rfl, ht_b35⟩ := hV9
      have ht_b35 : t b35 = (12, 0, 0) := ht_b35
      refine tk_get (ci := 11) (C := RX11) (T := TX11) (N := 3) (sp := (0, 0, 1, 0)) hx hb htl inX11 hown hK hG ht_b35 (by decide) tk_no rfl 1 (by decide) (htl _ mw_861) (fun _ h9 => h9) rfl dX4_doDeed_43 (fun v9 hf36 hV9 => ?_)
      obtain ⟨v37, rfl, ha_v37, hb_v37⟩ := hV9
      refine lv_if_eq (tgt := 52) hx hb dX4_doDeed_46 (by decide) (fun c9 => ?_) (fun c9 => ?_)
      · have hc38 : v37.toInt = 0 := (fi_eq rfl (by decide)).mp c9
        refine lv_aload_n hx hb dX4_doDeed_52 rfl (lv_at hl 2 rfl) ?_
        refine lv_aload_n hx hb dX4_doDeed_53 rfl (lv_at hl 2 rfl) ?_
        refine tk_get (ci := 4) (C := RX4) (T := TX4) (N := 6) (sp := (6, 2, 0, 0)) hx hb htl inX4 hown hK hG ht_a0 (by decide) tk_no rfl 2 (by decide) (htl _ mw_123) (fun _ h9 => h9) rfl dX4_doDeed_54 (fun v9 hf39 hV9 => ?_)
        obtain ⟨b40, rfl, ht_b40⟩ := hV9
        have ht_b40 : t b40 = (2, 0, 0) := ht_b40
        refine lv_iload hx hb dX4_doDeed_57 (lv_at hl 0 rfl) ?_
        refine tk_Vi (As := [.int v32]) (rest := [.ref a0]) (ci := 1) ⟨hx, hb, hml, hown, hts⟩ hK hG hZ hS (k_X1_singVerse l D cy ld t b40 v32 ht_b40) trivial ⟨callB_of 1 hts (wl_in mw_896) rfl rfl rfl (htl _ mw_25) (htl _ mw_893) hd_yX1_singVerse ⟨(Nat.le_of_ble_eq_true rfl), (Nat.le_of_ble_eq_true rfl)⟩, htl _ mw_894, htl _ mw_895⟩ ht_b40 (by decide) tk_no rfl (tk_w.pick [3, 5, 6, 0, 1, 2, 4] rfl) rfl hl.1 rfl (Nat.le_of_ble_eq_true rfl) dX4_doDeed_59 ⟨(Nat.le_of_ble_eq_true rfl), (Nat.le_of_ble_eq_true rfl)⟩ (fun v41 H locs hpo hG hS hq9 => ?_)
        refine tk_put (ci := 4) (v := .int v41) (ty := .int) (C := RX4) (T := TX4) (N := 6) (sp := (0, (-2147483648), 2147483647, 0)) hx hb htl inX4 tyX4 tyX4_ok nmX4 hown hK hG hS ht_a0 (by decide) tk_no rfl 5 (by decide) (htl _ mw_806) (fun _ h9 => h9) rfl (tyX4_ok 5 (by decide)) rfl rfl rfl (tk_Vi (tk_rng _).1 (tk_rng _).2) (fun _ h => h) (tk_w.of ht_a0 (by decide) (List.mem_of_getElem? (i := 7) rfl) (Nat.le_refl _) (Nat.le_refl _)) dX4_doDeed_62 (fun H locs hG hS hf43 hq9 hj9 => ?_)
        refine lv_aload_n hx hb dX4_doDeed_65 rfl (lv_at hl 2 rfl) ?_
        refine tk_get (ci := 4) (C := RX4) (T := TX4) (N := 6) (sp := (0, (-2147483648), 2147483647, 0)) hx hb htl inX4 hown hK hG ht_a0 (by decide) tk_no rfl 5 (by decide) (htl _ mw_806) (fun _ h9 => h9) rfl dX4_doDeed_66 (fun v9 hf45 hV9 => ?_)
        obtain ⟨v46, rfl, ha_v46, hb_v46⟩ := hV9
        exact tk_iret (v := v46) hx hb hr rfl hlocks trivial hG hS dX4_doDeed_69
      · have hc38 : ¬ (v37.toInt = 0) := fun h9 => c9 ((fi_eq rfl (by decide)).mpr h9)
        refine lv_bipush (v := (-3)) hx hb dX4_doDeed_49 (by decide) ?_
        have hk_m3 : ((-3) : Int32).toInt = (-3) := by decide
        exact tk_iret (v := (-3)) hx hb hr rfl hlocks trivial hG hS dX4_doDeed_51
  · have hc4 : v3.toInt = 0 := (fi_eq rfl (by decide)).mp c9
    refine lv_aload_n hx hb dX4_doDeed_11 rfl (lv_at hl 1 rfl) ?_
    refine lv_aload_n hx hb dX4_doDeed_12 rfl (lv_at hl 2 rfl) ?_
    refine lv_iload_n hx hb dX4_doDeed_13 rfl (lv_at hl 3 rfl) ?_
    refine tk_Vi (As := [.ref a1, .int p2]) (rest := []) (ci := 4) ⟨hx, hb, hml, hown, hts⟩ hK hG hZ hS (k_X4_doBegin l D cy ld t a0 a1 p2 ht_a0 ht_a1 (by omega) (by omega)) trivial ⟨callB_of 2 hts (wl_in mw_865) rfl rfl rfl (htl _ mw_29) (htl _ mw_862) hd_yX4_doBegin ⟨(Nat.le_of_ble_eq_true rfl), (Nat.le_of_ble_eq_true rfl)⟩, htl _ mw_863, htl _ mw_864⟩ ht_a0 (by decide) tk_no rfl (tk_w.pick [5, 3, 0, 1, 2, 4] rfl) rfl hl.1 rfl (Nat.le_of_ble_eq_true rfl) dX4_doDeed_14 ⟨(Nat.le_of_ble_eq_true rfl), (Nat.le_of_ble_eq_true rfl)⟩ (fun v47 H locs hpo hG hS hq9 => ?_)
    obtain ⟨hpo49, hpo50⟩ := hpo
    exact tk_iret (v := v47) hx hb hr rfl hlocks trivial hG hS dX4_doDeed_17
theorem dX5_worthOf_0 : decode cX5_worthOf 0 = .ok (.iload_n 1, 1) := by decide +kernel
theorem dX5_worthOf_1 : decode cX5_worthOf 1 = .ok (.aload_n 0, 1) := by decide +kernel
theorem dX5_worthOf_2 : decode cX5_worthOf 2 = .ok (.getfield 42, 3) := by decide +kernel
theorem dX5_worthOf_5 : decode cX5_worthOf 5 = .ok (.if_icmp .ge 20, 3) := by decide +kernel
theorem dX5_worthOf_25 : decode cX5_worthOf 25 = .ok (.iconst 0, 1) := by decide +kernel
theorem dX5_worthOf_26 : decode cX5_worthOf 26 = .ok (.ireturn, 1) := by decide +kernel
theorem dX5_worthOf_8 : decode cX5_worthOf 8 = .ok (.iload_n 1, 1) := by decide +kernel
theorem dX5_worthOf_9 : decode cX5_worthOf 9 = .ok (.iconst 4, 1) := by decide +kernel
theorem dX5_worthOf_10 : decode cX5_worthOf 10 = .ok (.if_icmp .ge 15, 3) := by decide +kernel
set_option maxHeartbeats 4000000 in
set_option maxRecDepth 100000 in
theorem k_X5_worthOf_4 (l : Launch) (D : va_G) (cy : Nat → ClassId) (ld : Nat → Nat) (t : tk_T) (a0 : Nat) (p2 : Int32) (p3 : Int32) (ht_a0 : t a0 = (6, 0, 0)) : Met l yX5_worthOf (wl yX5_worthOf cX5_worthOf 11 (some .int)) ({ frames := 3, cells := 0, slots := 0, locals := 140 }) (tp D cy ld t [] [.ref a0, .int 4, .int p2, .int p3] (fun H => True)) (ti D cy ld t [] (fun r H => 0 ≤ r.toInt ∧ r.toInt ≤ 0) (tk_w t [])) 0 0 (tk_w t []) := by
  refine tk_met (y := yX5_worthOf) (cc := cX5_worthOf) (maxL := 11) (ret := (some .int)) (av := [.ref a0, .int 4, .int p2, .int p3]) _ _ (by decide) (Nat.le_of_ble_eq_true rfl) ?_
  intro p e s m args below meth c hx hb hr hml hts htl hown hlocks hK H locs hH hG hS hB hZ ls hl
  have hown : s.vm.findClass RX5 = some m.cls := hown
  have hl : lv_has ls 11 [(0, .ref a0), (1, .int 4), (2, .int p2), (3, .int p3)] := hl
  have hr_p2 := tk_rng p2
  have hr_p3 := tk_rng p3
  refine lv_iload_n hx hb dX5_worthOf_0 rfl (lv_at hl 1 rfl) ?_
  refine lv_aload_n hx hb dX5_worthOf_1 rfl (lv_at hl 0 rfl) ?_
  refine tk_get (ci := 5) (C := RX5) (T := TX5) (N := 11) (sp := (0, (-2147483648), 2147483647, 0)) hx hb htl inX5 hown hK hG ht_a0 (by decide) tk_no rfl 3 (by decide) (htl _ mw_1286) (fun _ h9 => h9) rfl dX5_worthOf_2 (fun v9 hf1 hV9 => ?_)
  obtain ⟨v2, rfl, ha_v2, hb_v2⟩ := hV9
  refine lv_icmp_ge (tgt := 25) hx hb dX5_worthOf_5 (by decide) (fun c9 => ?_) (fun c9 => ?_)
  · have hc3 : v2.toInt ≤ 4 := (fi_le rfl (by decide)).mp c9
    refine lv_iconst (v := 0) hx hb dX5_worthOf_25 (by decide) ?_
    have hk_0 : (0 : Int32).toInt = 0 := by decide
    exact tk_iret (v := 0) hx hb hr rfl hlocks (show 0 ≤ (0 : Int32).toInt ∧ (0 : Int32).toInt ≤ 0 from ⟨(by omega), (by omega)⟩) hG hS dX5_worthOf_26
  · have hc3 : ¬ (v2.toInt ≤ 4) := fun h9 => c9 ((fi_le rfl (by decide)).mpr h9)
    refine lv_iload_n hx hb dX5_worthOf_8 rfl (lv_at hl 1 rfl) ?_
    refine lv_iconst (v := 4) hx hb dX5_worthOf_9 (by decide) ?_
    refine lv_icmp_ge (tgt := 25) hx hb dX5_worthOf_10 (by decide) (fun _ => ?_) (fun c9 => absurd (by decide) c9)
    refine lv_iconst (v := 0) hx hb dX5_worthOf_25 (by decide) ?_
    have hk_0 : (0 : Int32).toInt = 0 := by decide
    exact tk_iret (v := 0) hx hb hr rfl hlocks (show 0 ≤ (0 : Int32).toInt ∧ (0 : Int32).toInt ≤ 0 from ⟨(by omega), (by omega)⟩) hG hS dX5_worthOf_26
theorem dX8_lullByWords_0 : decode cX8_lullByWords 0 = .ok (.aload_n 0, 1) := by decide +kernel
theorem dX8_lullByWords_1 : decode cX8_lullByWords 1 = .ok (.iconst 0, 1) := by decide +kernel
theorem dX8_lullByWords_2 : decode cX8_lullByWords 2 = .ok (.invokevirtual 45, 3) := by decide +kernel
theorem dX8_lullByWords_5 : decode cX8_lullByWords 5 = .ok (.ifCond .eq 14, 3) := by decide +kernel
theorem dX8_lullByWords_19 : decode cX8_lullByWords 19 = .ok (.aload_n 0, 1) := by decide +kernel
theorem dX8_lullByWords_20 : decode cX8_lullByWords 20 = .ok (.getfield 12, 3) := by decide +kernel
theorem dX8_lullByWords_23 : decode cX8_lullByWords 23 = .ok (.getfield 48, 3) := by decide +kernel
theorem dX8_lullByWords_26 : decode cX8_lullByWords 26 = .ok (.iconst 1, 1) := by decide +kernel
theorem dX8_lullByWords_27 : decode cX8_lullByWords 27 = .ok (.iaload, 1) := by decide +kernel
theorem dX8_lullByWords_28 : decode cX8_lullByWords 28 = .ok (.aload_n 0, 1) := by decide +kernel
theorem dX8_lullByWords_29 : decode cX8_lullByWords 29 = .ok (.getfield 12, 3) := by decide +kernel
theorem dX8_lullByWords_32 : decode cX8_lullByWords 32 = .ok (.getfield 48, 3) := by decide +kernel
theorem dX8_lullByWords_35 : decode cX8_lullByWords 35 = .ok (.iconst 4, 1) := by decide +kernel
theorem dX8_lullByWords_36 : decode cX8_lullByWords 36 = .ok (.iaload, 1) := by decide +kernel
theorem dX8_lullByWords_37 : decode cX8_lullByWords 37 = .ok (.iadd, 1) := by decide +kernel
theorem dX8_lullByWords_38 : decode cX8_lullByWords 38 = .ok (.istore_n 1, 1) := by decide +kernel
theorem dX8_lullByWords_39 : decode cX8_lullByWords 39 = .ok (.aload_n 0, 1) := by decide +kernel
theorem dX8_lullByWords_40 : decode cX8_lullByWords 40 = .ok (.getfield 12, 3) := by decide +kernel
theorem dX8_lullByWords_43 : decode cX8_lullByWords 43 = .ok (.getfield 48, 3) := by decide +kernel
theorem dX8_lullByWords_46 : decode cX8_lullByWords 46 = .ok (.iconst 3, 1) := by decide +kernel
theorem dX8_lullByWords_47 : decode cX8_lullByWords 47 = .ok (.iaload, 1) := by decide +kernel
theorem dX8_lullByWords_48 : decode cX8_lullByWords 48 = .ok (.iconst 1, 1) := by decide +kernel
theorem dX8_lullByWords_59 : decode cX8_lullByWords 59 = .ok (.ireturn, 1) := by decide +kernel
theorem dX8_lullByWords_49 : decode cX8_lullByWords 49 = .ok (.if_icmp .ne 9, 3) := by decide +kernel
theorem dX8_lullByWords_58 : decode cX8_lullByWords 58 = .ok (.iload_n 1, 1) := by decide +kernel
theorem dX8_lullByWords_52 : decode cX8_lullByWords 52 = .ok (.iconst 2, 1) := by decide +kernel
theorem dX8_lullByWords_53 : decode cX8_lullByWords 53 = .ok (.iload_n 1, 1) := by decide +kernel
theorem dX8_lullByWords_54 : decode cX8_lullByWords 54 = .ok (.imul, 1) := by decide +kernel
theorem dX8_lullByWords_55 : decode cX8_lullByWords 55 = .ok (.goto 4, 3) := by decide +kernel
theorem dX8_lullByWords_8 : decode cX8_lullByWords 8 = .ok (.aload_n 0, 1) := by decide +kernel
theorem dX8_lullByWords_9 : decode cX8_lullByWords 9 = .ok (.getfield 67, 3) := by decide +kernel
theorem dX8_lullByWords_12 : decode cX8_lullByWords 12 = .ok (.sipush 999, 3) := by decide +kernel
theorem dX8_lullByWords_15 : decode cX8_lullByWords 15 = .ok (.invokestatic 70, 3) := by decide +kernel
theorem dX8_lullByWords_18 : decode cX8_lullByWords 18 = .ok (.ireturn, 1) := by decide +kernel
set_option maxHeartbeats 4000000 in
set_option maxRecDepth 100000 in
theorem k_X8_lullByWords (l : Launch) (D : va_G) (cy : Nat → ClassId) (ld : Nat → Nat) (t : tk_T) (a0 : Nat) (ht_a0 : t a0 = (9, 0, 0)) : Met l yX8_lullByWords (wl yX8_lullByWords cX8_lullByWords 2 (some .int)) ({ frames := 5, cells := 0, slots := 0, locals := 280 }) (tp D cy ld t [] [.ref a0] (fun H => True)) (ti D cy ld t [] (fun r H => True) (tk_w t [(12, 0, 0), (20, 0, 0), (9, 0, 0)])) 0 0 (tk_w t [(12, 0, 0), (20, 0, 0), (9, 0, 0)]) := by
  refine tk_met (y := yX8_lullByWords) (cc := cX8_lullByWords) (maxL := 2) (ret := (some .int)) (av := [.ref a0]) _ _ (by decide) (Nat.le_of_ble_eq_true rfl) ?_
  intro p e s m args below meth c hx hb hr hml hts htl hown hlocks hK H locs hH hG hS hB hZ ls hl
  have hown : s.vm.findClass RX8 = some m.cls := hown
  have hl : lv_has ls 2 [(0, .ref a0)] := hl
  refine lv_aload_n hx hb dX8_lullByWords_0 rfl (lv_at hl 0 rfl) ?_
  refine lv_iconst (v := 0) hx hb dX8_lullByWords_1 (by decide) ?_
  have hk_0 : (0 : Int32).toInt = 0 := by decide
  refine tk_Vi (As := [.int 0]) (rest := []) (ci := 8) ⟨hx, hb, hml, hown, hts⟩ hK hG hZ hS (k_X8_isTold l D cy ld t a0 0 ht_a0) trivial ⟨callB_of 1 hts (wl_in mw_935) rfl rfl rfl (htl _ mw_21) (htl _ mw_932) hd_yX8_isTold ⟨(Nat.le_of_ble_eq_true rfl), (Nat.le_of_ble_eq_true rfl)⟩, htl _ mw_933, htl _ mw_934⟩ ht_a0 (by decide) tk_no rfl (tk_w.pick [0, 1, 2] rfl) rfl hl.1 rfl (Nat.le_of_ble_eq_true rfl) dX8_lullByWords_2 ⟨(Nat.le_of_ble_eq_true rfl), (Nat.le_of_ble_eq_true rfl)⟩ (fun v1 H locs hpo hG hS hq9 => ?_)
  obtain ⟨hpo3, hpo4, hpo5, hpo6⟩ := hpo
  refine lv_if_eq (tgt := 19) hx hb dX8_lullByWords_5 (by decide) (fun c9 => ?_) (fun c9 => ?_)
  · have hc7 : v1.toInt = 0 := (fi_eq rfl (by decide)).mp c9
    refine lv_aload_n hx hb dX8_lullByWords_19 rfl (lv_at hl 0 rfl) ?_
    refine tk_get (ci := 8) (C := RX8) (T := TX8) (N := 3) (sp := (6, 12, 0, 0)) hx hb htl inX8 hown hK hG ht_a0 (by decide) tk_no rfl 0 (by decide) (htl _ mw_96) (fun _ h9 => h9) rfl dX8_lullByWords_20 (fun v9 hf8 hV9 => ?_)
    obtain ⟨b9, rfl, ht_b9⟩ := hV9
    have ht_b9 : t b9 = (12, 0, 0) := ht_b9
    refine tk_get (ci := 11) (C := RX11) (T := TX11) (N := 3) (sp := (6, 20, 15, 0)) hx hb htl inX11 hown hK hG ht_b9 (by decide) tk_no rfl 0 (by decide) (htl _ mw_917) (fun _ h9 => h9) rfl dX8_lullByWords_23 (fun v9 hf10 hV9 => ?_)
    obtain ⟨b11, rfl, ht_b11⟩ := hV9
    have ht_b11 : t b11 = (20, 15, 0) := ht_b11
    refine lv_iconst (v := 1) hx hb dX8_lullByWords_26 (by decide) ?_
    refine tk_iald hx hb hK hG ht_b11 (by decide) (fun _ h => h) tk_no (I := 1) (by decide) (by decide) (by decide) dX8_lullByWords_27 (fun v12 _ _ => ?_)
    have hr_v12 := tk_rng v12
    refine lv_aload_n hx hb dX8_lullByWords_28 rfl (lv_at hl 0 rfl) ?_
    refine tk_get (ci := 8) (C := RX8) (T := TX8) (N := 3) (sp := (6, 12, 0, 0)) hx hb htl inX8 hown hK hG ht_a0 (by decide) tk_no rfl 0 (by decide) (htl _ mw_96) (fun _ h9 => h9) rfl dX8_lullByWords_29 (fun v9 hf13 hV9 => ?_)
    obtain ⟨b14, rfl, ht_b14⟩ := hV9
    have ht_b14 : t b14 = (12, 0, 0) := ht_b14
    refine tk_get (ci := 11) (C := RX11) (T := TX11) (N := 3) (sp := (6, 20, 15, 0)) hx hb htl inX11 hown hK hG ht_b14 (by decide) tk_no rfl 0 (by decide) (htl _ mw_917) (fun _ h9 => h9) rfl dX8_lullByWords_32 (fun v9 hf15 hV9 => ?_)
    obtain ⟨b16, rfl, ht_b16⟩ := hV9
    have ht_b16 : t b16 = (20, 15, 0) := ht_b16
    refine lv_iconst (v := 4) hx hb dX8_lullByWords_35 (by decide) ?_
    refine tk_iald hx hb hK hG ht_b16 (by decide) (fun _ h => h) tk_no (I := 4) (by decide) (by decide) (by decide) dX8_lullByWords_36 (fun v17 _ _ => ?_)
    have hr_v17 := tk_rng v17
    refine lv_iadd hx hb dX8_lullByWords_37 ?_
    obtain ⟨v18, hm_v18⟩ : ∃ z : Int32, v12 + v17 = z := ⟨_, rfl⟩
    refine fx_ti hm_v18 ?_
    refine lv_istore_n (lv' := [(1, .int v18), (0, .ref a0)]) hx hb dX8_lullByWords_38 rfl hl (by decide) rfl (fun ls hl => ?_)
    refine lv_aload_n hx hb dX8_lullByWords_39 rfl (lv_at hl 1 rfl) ?_
    refine tk_get (ci := 8) (C := RX8) (T := TX8) (N := 3) (sp := (6, 12, 0, 0)) hx hb htl inX8 hown hK hG ht_a0 (by decide) tk_no rfl 0 (by decide) (htl _ mw_96) (fun _ h9 => h9) rfl dX8_lullByWords_40 (fun v9 hf19 hV9 => ?_)
    obtain ⟨b20, rfl, ht_b20⟩ := hV9
    have ht_b20 : t b20 = (12, 0, 0) := ht_b20
    refine tk_get (ci := 11) (C := RX11) (T := TX11) (N := 3) (sp := (6, 20, 15, 0)) hx hb htl inX11 hown hK hG ht_b20 (by decide) tk_no rfl 0 (by decide) (htl _ mw_917) (fun _ h9 => h9) rfl dX8_lullByWords_43 (fun v9 hf21 hV9 => ?_)
    obtain ⟨b22, rfl, ht_b22⟩ := hV9
    have ht_b22 : t b22 = (20, 15, 0) := ht_b22
    refine lv_iconst (v := 3) hx hb dX8_lullByWords_46 (by decide) ?_
    refine tk_iald hx hb hK hG ht_b22 (by decide) (fun _ h => h) tk_no (I := 3) (by decide) (by decide) (by decide) dX8_lullByWords_47 (fun v23 _ _ => ?_)
    have hr_v23 := tk_rng v23
    refine lv_iconst (v := 1) hx hb dX8_lullByWords_48 (by decide) ?_
    have hj28 : ∀ (v27 : Int32), ∀ ls : Array Slot, lv_has ls 2 [] → W p l e ({ frames := 5, cells := 0, slots := 0, locals := 280 }) s m args below meth c H locs 0 0 (MQ below (ti D cy ld t [] (fun r H => True) (tk_w t [(12, 0, 0), (20, 0, 0), (9, 0, 0)])) args s 0 0 (tk_w t [(12, 0, 0), (20, 0, 0), (9, 0, 0)])) (F0 m 59 ls [.int v27]) := by
      intro v27  ls hl
      exact tk_iret (v := v27) hx hb hr rfl hlocks trivial hG hS dX8_lullByWords_59
    refine lv_icmp_ne (tgt := 58) hx hb dX8_lullByWords_49 (by decide) (fun c9 => ?_) (fun c9 => ?_)
    · have hc24 : ¬ (v23.toInt = 1) := fun h9 => c9 ((fi_eq rfl (by decide)).mpr h9)
      refine lv_iload_n hx hb dX8_lullByWords_58 rfl (lv_at hl 0 rfl) ?_
      exact hj28 v18 _ (lv_sub hl [] rfl)
    · have hc24 : v23.toInt = 1 := (fi_eq rfl (by decide)).mp c9
      refine lv_iconst (v := 2) hx hb dX8_lullByWords_52 (by decide) ?_
      refine lv_iload_n hx hb dX8_lullByWords_53 rfl (lv_at hl 0 rfl) ?_
      refine lv_imul hx hb dX8_lullByWords_54 ?_
      obtain ⟨v29, hm_v29⟩ : ∃ z : Int32, 2 * v18 = z := ⟨_, rfl⟩
      refine fx_ti hm_v29 ?_
      refine lv_goto (tgt := 59) hx hb dX8_lullByWords_55 (by decide) ?_
      exact hj28 v29 _ (lv_sub hl [] rfl)
  · have hc7 : ¬ (v1.toInt = 0) := fun h9 => c9 ((fi_eq rfl (by decide)).mpr h9)
    refine lv_aload_n hx hb dX8_lullByWords_8 rfl (lv_at hl 0 rfl) ?_
    refine tk_get (ci := 8) (C := RX8) (T := TX8) (N := 3) (sp := (0, (-2147483648), 2147483647, 0)) hx hb htl inX8 hown hK hG ht_a0 (by decide) tk_no rfl 2 (by decide) (htl _ mw_939) (fun _ h9 => h9) rfl dX8_lullByWords_9 (fun v9 hf30 hV9 => ?_)
    obtain ⟨v31, rfl, ha_v31, hb_v31⟩ := hV9
    refine lv_sipush (v := 999) hx hb dX8_lullByWords_12 (by decide) ?_
    have hk_999 : (999 : Int32).toInt = 999 := by decide
    refine tk_Si (As := [.int v31, .int 999]) (rest := []) ⟨hx, hb, hml, hown, hts⟩ hK hG hZ hS (k_X8_nearest l D cy ld t _ v31 999) trivial ⟨callB_of 2 hts (wl_in mw_960) rfl rfl rfl (htl _ mw_21) (htl _ mw_958) hd_yX8_nearest ⟨(Nat.le_of_ble_eq_true rfl), (Nat.le_of_ble_eq_true rfl)⟩, htl _ mw_959⟩ (tk_w.pick [] rfl) rfl hl.1 rfl (Nat.le_of_ble_eq_true rfl) dX8_lullByWords_15 ⟨(Nat.le_of_ble_eq_true rfl), (Nat.le_of_ble_eq_true rfl)⟩ (fun v32 H locs hpo hG hS hq9 => ?_)
    have hpo34 := hpo
    exact tk_iret (v := v32) hx hb hr rfl hlocks trivial hG hS dX8_lullByWords_18
theorem dX8_tireByWords_0 : decode cX8_tireByWords 0 = .ok (.aload_n 0, 1) := by decide +kernel
theorem dX8_tireByWords_1 : decode cX8_tireByWords 1 = .ok (.iconst 1, 1) := by decide +kernel
theorem dX8_tireByWords_2 : decode cX8_tireByWords 2 = .ok (.invokevirtual 45, 3) := by decide +kernel
theorem dX8_tireByWords_31 : decode cX8_tireByWords 31 = .ok (.ireturn, 1) := by decide +kernel
theorem dX8_tireByWords_5 : decode cX8_tireByWords 5 = .ok (.ifCond .eq 15, 3) := by decide +kernel
theorem dX8_tireByWords_20 : decode cX8_tireByWords 20 = .ok (.aload_n 0, 1) := by decide +kernel
theorem dX8_tireByWords_21 : decode cX8_tireByWords 21 = .ok (.getfield 12, 3) := by decide +kernel
theorem dX8_tireByWords_24 : decode cX8_tireByWords 24 = .ok (.getfield 48, 3) := by decide +kernel
theorem dX8_tireByWords_27 : decode cX8_tireByWords 27 = .ok (.iconst 1, 1) := by decide +kernel
theorem dX8_tireByWords_28 : decode cX8_tireByWords 28 = .ok (.iaload, 1) := by decide +kernel
theorem dX8_tireByWords_29 : decode cX8_tireByWords 29 = .ok (.iconst 4, 1) := by decide +kernel
theorem dX8_tireByWords_30 : decode cX8_tireByWords 30 = .ok (.idiv, 1) := by decide +kernel
theorem dX8_tireByWords_8 : decode cX8_tireByWords 8 = .ok (.aload_n 0, 1) := by decide +kernel
theorem dX8_tireByWords_9 : decode cX8_tireByWords 9 = .ok (.getfield 67, 3) := by decide +kernel
theorem dX8_tireByWords_12 : decode cX8_tireByWords 12 = .ok (.bipush 99, 2) := by decide +kernel
theorem dX8_tireByWords_14 : decode cX8_tireByWords 14 = .ok (.invokestatic 70, 3) := by decide +kernel
theorem dX8_tireByWords_17 : decode cX8_tireByWords 17 = .ok (.goto 14, 3) := by decide +kernel
set_option maxHeartbeats 4000000 in
set_option maxRecDepth 100000 in
theorem k_X8_tireByWords (l : Launch) (D : va_G) (cy : Nat → ClassId) (ld : Nat → Nat) (t : tk_T) (a0 : Nat) (ht_a0 : t a0 = (9, 0, 0)) : Met l yX8_tireByWords (wl yX8_tireByWords cX8_tireByWords 1 (some .int)) ({ frames := 5, cells := 0, slots := 0, locals := 280 }) (tp D cy ld t [] [.ref a0] (fun H => True)) (ti D cy ld t [] (fun r H => True) (tk_w t [(12, 0, 0), (20, 0, 0), (9, 0, 0)])) 0 0 (tk_w t [(12, 0, 0), (20, 0, 0), (9, 0, 0)]) := by
  refine tk_met (y := yX8_tireByWords) (cc := cX8_tireByWords) (maxL := 1) (ret := (some .int)) (av := [.ref a0]) _ _ (by decide) (Nat.le_of_ble_eq_true rfl) ?_
  intro p e s m args below meth c hx hb hr hml hts htl hown hlocks hK H locs hH hG hS hB hZ ls hl
  have hown : s.vm.findClass RX8 = some m.cls := hown
  have hl : lv_has ls 1 [(0, .ref a0)] := hl
  refine lv_aload_n hx hb dX8_tireByWords_0 rfl (lv_at hl 0 rfl) ?_
  refine lv_iconst (v := 1) hx hb dX8_tireByWords_1 (by decide) ?_
  have hk_1 : (1 : Int32).toInt = 1 := by decide
  refine tk_Vi (As := [.int 1]) (rest := []) (ci := 8) ⟨hx, hb, hml, hown, hts⟩ hK hG hZ hS (k_X8_isTold l D cy ld t a0 1 ht_a0) trivial ⟨callB_of 1 hts (wl_in mw_935) rfl rfl rfl (htl _ mw_21) (htl _ mw_932) hd_yX8_isTold ⟨(Nat.le_of_ble_eq_true rfl), (Nat.le_of_ble_eq_true rfl)⟩, htl _ mw_933, htl _ mw_934⟩ ht_a0 (by decide) tk_no rfl (tk_w.pick [0, 1, 2] rfl) rfl hl.1 rfl (Nat.le_of_ble_eq_true rfl) dX8_tireByWords_2 ⟨(Nat.le_of_ble_eq_true rfl), (Nat.le_of_ble_eq_true rfl)⟩ (fun v1 H locs hpo hG hS hq9 => ?_)
  obtain ⟨hpo3, hpo4, hpo5, hpo6⟩ := hpo
  have hj23 : ∀ (v21 : Int32) (H : Heap) (locs : List Loc), tk_G D cy ld t [] H → va_S (tk_w t [(12, 0, 0), (20, 0, 0), (9, 0, 0)]) s.heap H locs → ∀ ls : Array Slot, lv_has ls 1 [] → W p l e ({ frames := 5, cells := 0, slots := 0, locals := 280 }) s m args below meth c H locs 0 0 (MQ below (ti D cy ld t [] (fun r H => True) (tk_w t [(12, 0, 0), (20, 0, 0), (9, 0, 0)])) args s 0 0 (tk_w t [(12, 0, 0), (20, 0, 0), (9, 0, 0)])) (F0 m 31 ls [.int v21]) := by
    intro v21 H locs hG hS ls hl
    exact tk_iret (v := v21) hx hb hr rfl hlocks trivial hG hS dX8_tireByWords_31
  refine lv_if_eq (tgt := 20) hx hb dX8_tireByWords_5 (by decide) (fun c9 => ?_) (fun c9 => ?_)
  · have hc7 : v1.toInt = 0 := (fi_eq rfl (by decide)).mp c9
    refine lv_aload_n hx hb dX8_tireByWords_20 rfl (lv_at hl 0 rfl) ?_
    refine tk_get (ci := 8) (C := RX8) (T := TX8) (N := 3) (sp := (6, 12, 0, 0)) hx hb htl inX8 hown hK hG ht_a0 (by decide) tk_no rfl 0 (by decide) (htl _ mw_96) (fun _ h9 => h9) rfl dX8_tireByWords_21 (fun v9 hf24 hV9 => ?_)
    obtain ⟨b25, rfl, ht_b25⟩ := hV9
    have ht_b25 : t b25 = (12, 0, 0) := ht_b25
    refine tk_get (ci := 11) (C := RX11) (T := TX11) (N := 3) (sp := (6, 20, 15, 0)) hx hb htl inX11 hown hK hG ht_b25 (by decide) tk_no rfl 0 (by decide) (htl _ mw_917) (fun _ h9 => h9) rfl dX8_tireByWords_24 (fun v9 hf26 hV9 => ?_)
    obtain ⟨b27, rfl, ht_b27⟩ := hV9
    have ht_b27 : t b27 = (20, 15, 0) := ht_b27
    refine lv_iconst (v := 1) hx hb dX8_tireByWords_27 (by decide) ?_
    refine tk_iald hx hb hK hG ht_b27 (by decide) (fun _ h => h) tk_no (I := 1) (by decide) (by decide) (by decide) dX8_tireByWords_28 (fun v28 _ _ => ?_)
    have hr_v28 := tk_rng v28
    refine lv_iconst (v := 4) hx hb dX8_tireByWords_29 (by decide) ?_
    refine lv_idiv hx hb dX8_tireByWords_30 (by decide) ?_
    refine tk_any (fun v29 => ?_)
    exact hj23 v29 _ _ hG hS _ (lv_sub hl [] rfl)
  · have hc7 : ¬ (v1.toInt = 0) := fun h9 => c9 ((fi_eq rfl (by decide)).mpr h9)
    refine lv_aload_n hx hb dX8_tireByWords_8 rfl (lv_at hl 0 rfl) ?_
    refine tk_get (ci := 8) (C := RX8) (T := TX8) (N := 3) (sp := (0, (-2147483648), 2147483647, 0)) hx hb htl inX8 hown hK hG ht_a0 (by decide) tk_no rfl 2 (by decide) (htl _ mw_939) (fun _ h9 => h9) rfl dX8_tireByWords_9 (fun v9 hf30 hV9 => ?_)
    obtain ⟨v31, rfl, ha_v31, hb_v31⟩ := hV9
    refine lv_bipush (v := 99) hx hb dX8_tireByWords_12 (by decide) ?_
    have hk_99 : (99 : Int32).toInt = 99 := by decide
    refine tk_Si (As := [.int v31, .int 99]) (rest := []) ⟨hx, hb, hml, hown, hts⟩ hK hG hZ hS (k_X8_nearest l D cy ld t _ v31 99) trivial ⟨callB_of 2 hts (wl_in mw_960) rfl rfl rfl (htl _ mw_21) (htl _ mw_958) hd_yX8_nearest ⟨(Nat.le_of_ble_eq_true rfl), (Nat.le_of_ble_eq_true rfl)⟩, htl _ mw_959⟩ (tk_w.pick [] rfl) rfl hl.1 rfl (Nat.le_of_ble_eq_true rfl) dX8_tireByWords_14 ⟨(Nat.le_of_ble_eq_true rfl), (Nat.le_of_ble_eq_true rfl)⟩ (fun v32 H locs hpo hG hS hq9 => ?_)
    have hpo34 := hpo
    refine lv_goto (tgt := 31) hx hb dX8_tireByWords_17 (by decide) ?_
    exact hj23 v32 _ _ hG hS _ (lv_sub hl [] rfl)
