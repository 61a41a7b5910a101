theorem dX13_reckon_0 : decode cX13_reckon 0 = .ok (.iload_n 1, 1) := by decide +kernel
theorem dX13_reckon_1 : decode cX13_reckon 1 = .ok (.tableswitch 148 20 26 #[43, 48, 53, 58, 90, 122, 135], 43) := by decide +kernel
theorem dX13_reckon_44 : decode cX13_reckon 44 = .ok (.lload_n 2, 1) := by decide +kernel
theorem dX13_reckon_45 : decode cX13_reckon 45 = .ok (.lload 4, 2) := by decide +kernel
theorem dX13_reckon_47 : decode cX13_reckon 47 = .ok (.ladd, 1) := by decide +kernel
theorem dX13_reckon_48 : decode cX13_reckon 48 = .ok (.lreturn, 1) := by decide +kernel
theorem dX13_reckon_49 : decode cX13_reckon 49 = .ok (.lload_n 2, 1) := by decide +kernel
theorem dX13_reckon_50 : decode cX13_reckon 50 = .ok (.lload 4, 2) := by decide +kernel
theorem dX13_reckon_52 : decode cX13_reckon 52 = .ok (.lsub, 1) := by decide +kernel
theorem dX13_reckon_53 : decode cX13_reckon 53 = .ok (.lreturn, 1) := by decide +kernel
theorem dX13_reckon_54 : decode cX13_reckon 54 = .ok (.lload_n 2, 1) := by decide +kernel
theorem dX13_reckon_55 : decode cX13_reckon 55 = .ok (.lload 4, 2) := by decide +kernel
theorem dX13_reckon_57 : decode cX13_reckon 57 = .ok (.lmul, 1) := by decide +kernel
theorem dX13_reckon_58 : decode cX13_reckon 58 = .ok (.lreturn, 1) := by decide +kernel
theorem dX13_reckon_59 : decode cX13_reckon 59 = .ok (.aload_n 0, 1) := by decide +kernel
theorem dX13_reckon_60 : decode cX13_reckon 60 = .ok (.lload 4, 2) := by decide +kernel
theorem dX13_reckon_62 : decode cX13_reckon 62 = .ok (.lconst 0, 1) := by decide +kernel
theorem dX13_reckon_63 : decode cX13_reckon 63 = .ok (.lcmp, 1) := by decide +kernel
theorem dX13_reckon_64 : decode cX13_reckon 64 = .ok (.ifCond .ne 7, 3) := by decide +kernel
theorem dX13_reckon_71 : decode cX13_reckon 71 = .ok (.iconst 0, 1) := by decide +kernel
theorem dX13_reckon_72 : decode cX13_reckon 72 = .ok (.putfield 386, 3) := by decide +kernel
theorem dX13_reckon_75 : decode cX13_reckon 75 = .ok (.aload_n 0, 1) := by decide +kernel
theorem dX13_reckon_76 : decode cX13_reckon 76 = .ok (.getfield 386, 3) := by decide +kernel
theorem dX13_reckon_79 : decode cX13_reckon 79 = .ok (.ifCond .eq 7, 3) := by decide +kernel
theorem dX13_reckon_86 : decode cX13_reckon 86 = .ok (.lload_n 2, 1) := by decide +kernel
theorem dX13_reckon_87 : decode cX13_reckon 87 = .ok (.lload 4, 2) := by decide +kernel
theorem dX13_reckon_89 : decode cX13_reckon 89 = .ok (.ldiv, 1) := by decide +kernel
theorem dX13_reckon_90 : decode cX13_reckon 90 = .ok (.lreturn, 1) := by decide +kernel
theorem dX13_reckon_67 : decode cX13_reckon 67 = .ok (.iconst 1, 1) := by decide +kernel
theorem dX13_reckon_68 : decode cX13_reckon 68 = .ok (.goto 4, 3) := by decide +kernel
theorem dX13_reckon_82 : decode cX13_reckon 82 = .ok (.lconst 0, 1) := by decide +kernel
theorem dX13_reckon_83 : decode cX13_reckon 83 = .ok (.goto 7, 3) := by decide +kernel
theorem dX13_reckon_91 : decode cX13_reckon 91 = .ok (.aload_n 0, 1) := by decide +kernel
theorem dX13_reckon_92 : decode cX13_reckon 92 = .ok (.lload 4, 2) := by decide +kernel
theorem dX13_reckon_94 : decode cX13_reckon 94 = .ok (.lconst 0, 1) := by decide +kernel
theorem dX13_reckon_95 : decode cX13_reckon 95 = .ok (.lcmp, 1) := by decide +kernel
theorem dX13_reckon_96 : decode cX13_reckon 96 = .ok (.ifCond .ne 7, 3) := by decide +kernel
theorem dX13_reckon_103 : decode cX13_reckon 103 = .ok (.iconst 0, 1) := by decide +kernel
theorem dX13_reckon_104 : decode cX13_reckon 104 = .ok (.putfield 386, 3) := by decide +kernel
theorem dX13_reckon_107 : decode cX13_reckon 107 = .ok (.aload_n 0, 1) := by decide +kernel
theorem dX13_reckon_108 : decode cX13_reckon 108 = .ok (.getfield 386, 3) := by decide +kernel
theorem dX13_reckon_111 : decode cX13_reckon 111 = .ok (.ifCond .eq 7, 3) := by decide +kernel
theorem dX13_reckon_118 : decode cX13_reckon 118 = .ok (.lload_n 2, 1) := by decide +kernel
theorem dX13_reckon_119 : decode cX13_reckon 119 = .ok (.lload 4, 2) := by decide +kernel
theorem dX13_reckon_121 : decode cX13_reckon 121 = .ok (.lrem, 1) := by decide +kernel
theorem dX13_reckon_122 : decode cX13_reckon 122 = .ok (.lreturn, 1) := by decide +kernel
theorem dX13_reckon_99 : decode cX13_reckon 99 = .ok (.iconst 1, 1) := by decide +kernel
theorem dX13_reckon_100 : decode cX13_reckon 100 = .ok (.goto 4, 3) := by decide +kernel
theorem dX13_reckon_114 : decode cX13_reckon 114 = .ok (.lconst 0, 1) := by decide +kernel
theorem dX13_reckon_115 : decode cX13_reckon 115 = .ok (.goto 7, 3) := by decide +kernel
theorem dX13_reckon_123 : decode cX13_reckon 123 = .ok (.lload_n 2, 1) := by decide +kernel
theorem dX13_reckon_124 : decode cX13_reckon 124 = .ok (.lload 4, 2) := by decide +kernel
theorem dX13_reckon_126 : decode cX13_reckon 126 = .ok (.lcmp, 1) := by decide +kernel
theorem dX13_reckon_127 : decode cX13_reckon 127 = .ok (.ifCond .ge 7, 3) := by decide +kernel
theorem dX13_reckon_134 : decode cX13_reckon 134 = .ok (.lconst 0, 1) := by decide +kernel
theorem dX13_reckon_135 : decode cX13_reckon 135 = .ok (.lreturn, 1) := by decide +kernel
theorem dX13_reckon_130 : decode cX13_reckon 130 = .ok (.lconst 1, 1) := by decide +kernel
theorem dX13_reckon_131 : decode cX13_reckon 131 = .ok (.goto 4, 3) := by decide +kernel
theorem dX13_reckon_136 : decode cX13_reckon 136 = .ok (.lload_n 2, 1) := by decide +kernel
theorem dX13_reckon_137 : decode cX13_reckon 137 = .ok (.lload 4, 2) := by decide +kernel
theorem dX13_reckon_139 : decode cX13_reckon 139 = .ok (.lcmp, 1) := by decide +kernel
theorem dX13_reckon_140 : decode cX13_reckon 140 = .ok (.ifCond .le 7, 3) := by decide +kernel
theorem dX13_reckon_147 : decode cX13_reckon 147 = .ok (.lconst 0, 1) := by decide +kernel
theorem dX13_reckon_148 : decode cX13_reckon 148 = .ok (.lreturn, 1) := by decide +kernel
theorem dX13_reckon_143 : decode cX13_reckon 143 = .ok (.lconst 1, 1) := by decide +kernel
theorem dX13_reckon_144 : decode cX13_reckon 144 = .ok (.goto 4, 3) := by decide +kernel
theorem dX13_reckon_149 : decode cX13_reckon 149 = .ok (.lload_n 2, 1) := by decide +kernel
theorem dX13_reckon_150 : decode cX13_reckon 150 = .ok (.lload 4, 2) := by decide +kernel
theorem dX13_reckon_152 : decode cX13_reckon 152 = .ok (.lcmp, 1) := by decide +kernel
theorem dX13_reckon_153 : decode cX13_reckon 153 = .ok (.ifCond .ne 7, 3) := by decide +kernel
theorem dX13_reckon_160 : decode cX13_reckon 160 = .ok (.lconst 0, 1) := by decide +kernel
theorem dX13_reckon_161 : decode cX13_reckon 161 = .ok (.lreturn, 1) := by decide +kernel
theorem dX13_reckon_156 : decode cX13_reckon 156 = .ok (.lconst 1, 1) := by decide +kernel
theorem dX13_reckon_157 : decode cX13_reckon 157 = .ok (.goto 4, 3) := by decide +kernel
set_option maxHeartbeats 4000000 in
set_option maxRecDepth 100000 in
theorem k_X13_reckon (l : Launch) (D : va_G) (cy : Nat → ClassId) (ld ad : Nat → Nat) (am : Nat) (hD : mz_D ad am) (Fa : Nat → Int32) (Ga : Nat → Int64) (Ra : Nat → Nat → Int32) (Sa : Nat → Nat → Int64) (p1 : Int32) (p2 : Int64) (p3 : Int64) (hIF : mz_IF false Fa) (hIG : mz_IG Ga) (hIR : mz_IR [] true Ra) : Met l yX13_reckon (wl yX13_reckon cX13_reckon 6 (some .long)) ({ frames := 3, cells := 0, slots := 0, locals := 140 }) (mz_p D cy ld ad am Fa Ga Ra Sa [.ref am, .int p1, .long p2, .long p3]) (mz_l D cy ad am (fun r F G R S => mz_IF false F ∧ mz_IG G ∧ mz_IR [] true R ∧ (∀ k : Nat, k ∉ ([38] : List Nat) → F k = Fa k) ∧ (∀ k : Nat, k ∉ ([] : List Nat) → R k = Ra k) ∧ (∀ k : Nat, k ∉ ([] : List Nat) → G k = Ga k))) 0 0 (mz_W ad am) := by
  refine mz_met (y := yX13_reckon) (cc := cX13_reckon) (maxL := 6) (ret := (some .long)) (av := [.ref am, .int p1, .long p2, .long p3]) _ (by decide) (Nat.le_of_ble_eq_true rfl) ?_
  intro p e s m args below meth c hx hb hr hml hts htl hown hlocks hK H locs hM hS ls hl
  have hown : s.vm.findClass RX13 = some m.cls := hown
  have hl : lv_has ls 6 [(0, .ref am), (1, .int p1), (2, .long p2), (4, .long p3)] := hl
  have hr_p1 := tk_rng p1
  refine lv_iload_n hx hb dX13_reckon_0 rfl (lv_at hl 1 rfl) ?_
  rcases (show p1.toInt = 20 ∨ p1.toInt = 21 ∨ p1.toInt = 22 ∨ p1.toInt = 23 ∨ p1.toInt = 24 ∨ p1.toInt = 25 ∨ p1.toInt = 26 ∨ p1.toInt < 20 ∨ 26 < p1.toInt by omega) with hsw | hsw | hsw | hsw | hsw | hsw | hsw | hsw | hsw
  · refine lv_tableIn (off := 43) (tgt := 44) hx hb dX13_reckon_1 (by omega) (by omega) (by rw [hsw]; rfl) (by decide) ?_
    refine lv_lload_n hx hb dX13_reckon_44 rfl (lv_at hl 2 rfl) ?_
    refine lv_lload hx hb dX13_reckon_45 (lv_at hl 3 rfl) ?_
    refine lv_ladd hx hb dX13_reckon_47 ?_
    refine tk_anyl (fun w1 => ?_)
    exact mz_lret (v := w1) hx hb hr hlocks ⟨hIF, hIG, hIR, (fun _ _ => rfl), (fun _ _ => rfl), (fun _ _ => rfl)⟩ hM hS dX13_reckon_48
  · refine lv_tableIn (off := 48) (tgt := 49) hx hb dX13_reckon_1 (by omega) (by omega) (by rw [hsw]; rfl) (by decide) ?_
    refine lv_lload_n hx hb dX13_reckon_49 rfl (lv_at hl 2 rfl) ?_
    refine lv_lload hx hb dX13_reckon_50 (lv_at hl 3 rfl) ?_
    refine lv_lsub hx hb dX13_reckon_52 ?_
    refine tk_anyl (fun w2 => ?_)
    exact mz_lret (v := w2) hx hb hr hlocks ⟨hIF, hIG, hIR, (fun _ _ => rfl), (fun _ _ => rfl), (fun _ _ => rfl)⟩ hM hS dX13_reckon_53
  · refine lv_tableIn (off := 53) (tgt := 54) hx hb dX13_reckon_1 (by omega) (by omega) (by rw [hsw]; rfl) (by decide) ?_
    refine lv_lload_n hx hb dX13_reckon_54 rfl (lv_at hl 2 rfl) ?_
    refine lv_lload hx hb dX13_reckon_55 (lv_at hl 3 rfl) ?_
    refine lv_lmul hx hb dX13_reckon_57 ?_
    refine tk_anyl (fun w3 => ?_)
    exact mz_lret (v := w3) hx hb hr hlocks ⟨hIF, hIG, hIR, (fun _ _ => rfl), (fun _ _ => rfl), (fun _ _ => rfl)⟩ hM hS dX13_reckon_58
  · refine lv_tableIn (off := 58) (tgt := 59) hx hb dX13_reckon_1 (by omega) (by omega) (by rw [hsw]; rfl) (by decide) ?_
    refine lv_aload_n hx hb dX13_reckon_59 rfl (lv_at hl 0 rfl) ?_
    refine lv_lload hx hb dX13_reckon_60 (lv_at hl 3 rfl) ?_
    refine lv_lconst (v := 0) hx hb dX13_reckon_62 (by decide) ?_
    refine W.lcmp hx hb dX13_reckon_63 ?_
    refine lv_if_ne (tgt := 71) hx hb dX13_reckon_64 (by decide) (fun c9 => ?_) (fun c9 => ?_)
    · have hc4 : ¬ (p3.toInt = 0) := fun h9 => c9 (((lg_cmp_eq _ _).trans (fl_eq rfl (show (0 : Int64).toInt = 0 by decide))).mpr h9)
      refine lv_iconst (v := 0) hx hb dX13_reckon_71 (by decide) ?_
      have hk_0 : (0 : Int32).toInt = 0 := by decide
      have hk_0 : (0 : Int32).toInt = 0 := by decide
      refine mz_putI (ty := .boolean) (x := 0) hx hb htl hown hK hD hM hS 38 (Nat.le_of_ble_eq_true rfl) rfl (htl _ mw_1051) (fun _ h9 => h9) rfl (tyX13_ok 38 (by decide)) rfl rfl dX13_reckon_72 (fun H locs F hM hS hf9 hj9 => ?_)
      have hIF := hIF.put hf9 hj9 (show 0 ≤ (0 : Int32).toInt by omega) (show (0 : Int32).toInt ≤ 1 by omega) (by decide)
      have hFF := mz_frp (K := [38]) (Fa := Fa) hj9 (fun _ _ => rfl) (by decide)
      have hf6 := hf9
      refine lv_aload_n hx hb dX13_reckon_75 rfl (lv_at hl 0 rfl) ?_
      refine mz_getI hx hb htl hown hK hM 38 (Nat.le_of_ble_eq_true rfl) rfl (htl _ mw_1051) (fun _ h9 => h9) dX13_reckon_76 (fun v9 e9 => ?_)
      refine fx_ti (v := 0) (e9.symm.trans hf6) ?_
      refine lv_if_eq (tgt := 86) hx hb dX13_reckon_79 (by decide) (fun _ => ?_) (fun c9 => absurd (by decide) c9)
      refine lv_lload_n hx hb dX13_reckon_86 rfl (lv_at hl 2 rfl) ?_
      refine lv_lload hx hb dX13_reckon_87 (lv_at hl 3 rfl) ?_
      refine lv_ldiv hx hb dX13_reckon_89 (fun h9 => absurd ((fl_eq rfl (show (0 : Int64).toInt = 0 by decide)).mp h9) (by omega)) ?_
      refine tk_anyl (fun w10 => ?_)
      exact mz_lret (v := w10) hx hb hr hlocks ⟨hIF, hIG, hIR, hFF, (fun _ _ => rfl), (fun _ _ => rfl)⟩ hM hS dX13_reckon_90
    · have hc4 : p3.toInt = 0 := ((lg_cmp_eq _ _).trans (fl_eq rfl (show (0 : Int64).toInt = 0 by decide))).mp c9
      refine lv_iconst (v := 1) hx hb dX13_reckon_67 (by decide) ?_
      refine lv_goto (tgt := 72) hx hb dX13_reckon_68 (by decide) ?_
      have hk_1 : (1 : Int32).toInt = 1 := by decide
      have hk_1 : (1 : Int32).toInt = 1 := by decide
      refine mz_putI (ty := .boolean) (x := 1) hx hb htl hown hK hD hM hS 38 (Nat.le_of_ble_eq_true rfl) rfl (htl _ mw_1051) (fun _ h9 => h9) rfl (tyX13_ok 38 (by decide)) rfl rfl dX13_reckon_72 (fun H locs F hM hS hf9 hj9 => ?_)
      have hIF := hIF.put hf9 hj9 (show 0 ≤ (1 : Int32).toInt by omega) (show (1 : Int32).toInt ≤ 1 by omega) (by decide)
      have hFF := mz_frp (K := [38]) (Fa := Fa) hj9 (fun _ _ => rfl) (by decide)
      have hf12 := hf9
      refine lv_aload_n hx hb dX13_reckon_75 rfl (lv_at hl 0 rfl) ?_
      refine mz_getI hx hb htl hown hK hM 38 (Nat.le_of_ble_eq_true rfl) rfl (htl _ mw_1051) (fun _ h9 => h9) dX13_reckon_76 (fun v9 e9 => ?_)
      refine fx_ti (v := 1) (e9.symm.trans hf12) ?_
      refine lv_if_eq (tgt := 86) hx hb dX13_reckon_79 (by decide) (fun c9 => absurd c9 (by decide)) (fun _ => ?_)
      refine lv_lconst (v := 0) hx hb dX13_reckon_82 (by decide) ?_
      refine lv_goto (tgt := 90) hx hb dX13_reckon_83 (by decide) ?_
      have hk_0 : (0 : Int64).toInt = 0 := by decide
      exact mz_lret (v := 0) hx hb hr hlocks ⟨hIF, hIG, hIR, hFF, (fun _ _ => rfl), (fun _ _ => rfl)⟩ hM hS dX13_reckon_90
  · refine lv_tableIn (off := 90) (tgt := 91) hx hb dX13_reckon_1 (by omega) (by omega) (by rw [hsw]; rfl) (by decide) ?_
    refine lv_aload_n hx hb dX13_reckon_91 rfl (lv_at hl 0 rfl) ?_
    refine lv_lload hx hb dX13_reckon_92 (lv_at hl 3 rfl) ?_
    refine lv_lconst (v := 0) hx hb dX13_reckon_94 (by decide) ?_
    refine W.lcmp hx hb dX13_reckon_95 ?_
    refine lv_if_ne (tgt := 103) hx hb dX13_reckon_96 (by decide) (fun c9 => ?_) (fun c9 => ?_)
    · have hc13 : ¬ (p3.toInt = 0) := fun h9 => c9 (((lg_cmp_eq _ _).trans (fl_eq rfl (show (0 : Int64).toInt = 0 by decide))).mpr h9)
      refine lv_iconst (v := 0) hx hb dX13_reckon_103 (by decide) ?_
      have hk_0 : (0 : Int32).toInt = 0 := by decide
      have hk_0 : (0 : Int32).toInt = 0 := by decide
      refine mz_putI (ty := .boolean) (x := 0) hx hb htl hown hK hD hM hS 38 (Nat.le_of_ble_eq_true rfl) rfl (htl _ mw_1051) (fun _ h9 => h9) rfl (tyX13_ok 38 (by decide)) rfl rfl dX13_reckon_104 (fun H locs F hM hS hf9 hj9 => ?_)
      have hIF := hIF.put hf9 hj9 (show 0 ≤ (0 : Int32).toInt by omega) (show (0 : Int32).toInt ≤ 1 by omega) (by decide)
      have hFF := mz_frp (K := [38]) (Fa := Fa) hj9 (fun _ _ => rfl) (by decide)
      have hf15 := hf9
      refine lv_aload_n hx hb dX13_reckon_107 rfl (lv_at hl 0 rfl) ?_
      refine mz_getI hx hb htl hown hK hM 38 (Nat.le_of_ble_eq_true rfl) rfl (htl _ mw_1051) (fun _ h9 => h9) dX13_reckon_108 (fun v9 e9 => ?_)
      refine fx_ti (v := 0) (e9.symm.trans hf15) ?_
      refine lv_if_eq (tgt := 118) hx hb dX13_reckon_111 (by decide) (fun _ => ?_) (fun c9 => absurd (by decide) c9)
      refine lv_lload_n hx hb dX13_reckon_118 rfl (lv_at hl 2 rfl) ?_
      refine lv_lload hx hb dX13_reckon_119 (lv_at hl 3 rfl) ?_
      refine lv_lrem hx hb dX13_reckon_121 (fun h9 => absurd ((fl_eq rfl (show (0 : Int64).toInt = 0 by decide)).mp h9) (by omega)) ?_
      refine tk_anyl (fun w16 => ?_)
      exact mz_lret (v := w16) hx hb hr hlocks ⟨hIF, hIG, hIR, hFF, (fun _ _ => rfl), (fun _ _ => rfl)⟩ hM hS dX13_reckon_122
    · have hc13 : p3.toInt = 0 := ((lg_cmp_eq _ _).trans (fl_eq rfl (show (0 : Int64).toInt = 0 by decide))).mp c9
      refine lv_iconst (v := 1) hx hb dX13_reckon_99 (by decide) ?_
      refine lv_goto (tgt := 104) hx hb dX13_reckon_100 (by decide) ?_
      have hk_1 : (1 : Int32).toInt = 1 := by decide
      have hk_1 : (1 : Int32).toInt = 1 := by decide
      refine mz_putI (ty := .boolean) (x := 1) hx hb htl hown hK hD hM hS 38 (Nat.le_of_ble_eq_true rfl) rfl (htl _ mw_1051) (fun _ h9 => h9) rfl (tyX13_ok 38 (by decide)) rfl rfl dX13_reckon_104 (fun H locs F hM hS hf9 hj9 => ?_)
      have hIF := hIF.put hf9 hj9 (show 0 ≤ (1 : Int32).toInt by omega) (show (1 : Int32).toInt ≤ 1 by omega) (by decide)
      have hFF := mz_frp (K := [38]) (Fa := Fa) hj9 (fun _ _ => rfl) (by decide)
      have hf18 := hf9
      refine lv_aload_n hx hb dX13_reckon_107 rfl (lv_at hl 0 rfl) ?_
      refine mz_getI hx hb htl hown hK hM 38 (Nat.le_of_ble_eq_true rfl) rfl (htl _ mw_1051) (fun _ h9 => h9) dX13_reckon_108 (fun v9 e9 => ?_)
      refine fx_ti (v := 1) (e9.symm.trans hf18) ?_
      refine lv_if_eq (tgt := 118) hx hb dX13_reckon_111 (by decide) (fun c9 => absurd c9 (by decide)) (fun _ => ?_)
      refine lv_lconst (v := 0) hx hb dX13_reckon_114 (by decide) ?_
      refine lv_goto (tgt := 122) hx hb dX13_reckon_115 (by decide) ?_
      have hk_0 : (0 : Int64).toInt = 0 := by decide
      exact mz_lret (v := 0) hx hb hr hlocks ⟨hIF, hIG, hIR, hFF, (fun _ _ => rfl), (fun _ _ => rfl)⟩ hM hS dX13_reckon_122
  · refine lv_tableIn (off := 122) (tgt := 123) hx hb dX13_reckon_1 (by omega) (by omega) (by rw [hsw]; rfl) (by decide) ?_
    refine lv_lload_n hx hb dX13_reckon_123 rfl (lv_at hl 2 rfl) ?_
    refine lv_lload hx hb dX13_reckon_124 (lv_at hl 3 rfl) ?_
    refine W.lcmp hx hb dX13_reckon_126 ?_
    refine lv_if_ge (tgt := 134) hx hb dX13_reckon_127 (by decide) (fun c9 => ?_) (fun c9 => ?_)
    · have hc19 : p3.toInt ≤ p2.toInt := ((lg_cmp_ge _ _).trans (fl_le rfl rfl)).mp c9
      refine lv_lconst (v := 0) hx hb dX13_reckon_134 (by decide) ?_
      have hk_0 : (0 : Int64).toInt = 0 := by decide
      exact mz_lret (v := 0) hx hb hr hlocks ⟨hIF, hIG, hIR, (fun _ _ => rfl), (fun _ _ => rfl), (fun _ _ => rfl)⟩ hM hS dX13_reckon_135
    · have hc19 : ¬ (p3.toInt ≤ p2.toInt) := fun h9 => c9 (((lg_cmp_ge _ _).trans (fl_le rfl rfl)).mpr h9)
      refine lv_lconst (v := 1) hx hb dX13_reckon_130 (by decide) ?_
      refine lv_goto (tgt := 135) hx hb dX13_reckon_131 (by decide) ?_
      have hk_1 : (1 : Int64).toInt = 1 := by decide
      exact mz_lret (v := 1) hx hb hr hlocks ⟨hIF, hIG, hIR, (fun _ _ => rfl), (fun _ _ => rfl), (fun _ _ => rfl)⟩ hM hS dX13_reckon_135
  · refine lv_tableIn (off := 135) (tgt := 136) hx hb dX13_reckon_1 (by omega) (by omega) (by rw [hsw]; rfl) (by decide) ?_
    refine lv_lload_n hx hb dX13_reckon_136 rfl (lv_at hl 2 rfl) ?_
    refine lv_lload hx hb dX13_reckon_137 (lv_at hl 3 rfl) ?_
    refine W.lcmp hx hb dX13_reckon_139 ?_
    refine lv_if_le (tgt := 147) hx hb dX13_reckon_140 (by decide) (fun c9 => ?_) (fun c9 => ?_)
    · have hc20 : p2.toInt ≤ p3.toInt := ((lg_cmp_le _ _).trans (fl_le rfl rfl)).mp c9
      refine lv_lconst (v := 0) hx hb dX13_reckon_147 (by decide) ?_
      have hk_0 : (0 : Int64).toInt = 0 := by decide
      exact mz_lret (v := 0) hx hb hr hlocks ⟨hIF, hIG, hIR, (fun _ _ => rfl), (fun _ _ => rfl), (fun _ _ => rfl)⟩ hM hS dX13_reckon_148
    · have hc20 : ¬ (p2.toInt ≤ p3.toInt) := fun h9 => c9 (((lg_cmp_le _ _).trans (fl_le rfl rfl)).mpr h9)
      refine lv_lconst (v := 1) hx hb dX13_reckon_143 (by decide) ?_
      refine lv_goto (tgt := 148) hx hb dX13_reckon_144 (by decide) ?_
      have hk_1 : (1 : Int64).toInt = 1 := by decide
      exact mz_lret (v := 1) hx hb hr hlocks ⟨hIF, hIG, hIR, (fun _ _ => rfl), (fun _ _ => rfl), (fun _ _ => rfl)⟩ hM hS dX13_reckon_148
  · refine lv_tableOut (tgt := 149) hx hb dX13_reckon_1 (by omega) (by decide) ?_
    refine lv_lload_n hx hb dX13_reckon_149 rfl (lv_at hl 2 rfl) ?_
    refine lv_lload hx hb dX13_reckon_150 (lv_at hl 3 rfl) ?_
    refine W.lcmp hx hb dX13_reckon_152 ?_
    refine lv_if_ne (tgt := 160) hx hb dX13_reckon_153 (by decide) (fun c9 => ?_) (fun c9 => ?_)
    · have hc21 : ¬ (p2.toInt = p3.toInt) := fun h9 => c9 (((lg_cmp_eq _ _).trans (fl_eq rfl rfl)).mpr h9)
      refine lv_lconst (v := 0) hx hb dX13_reckon_160 (by decide) ?_
      have hk_0 : (0 : Int64).toInt = 0 := by decide
      exact mz_lret (v := 0) hx hb hr hlocks ⟨hIF, hIG, hIR, (fun _ _ => rfl), (fun _ _ => rfl), (fun _ _ => rfl)⟩ hM hS dX13_reckon_161
    · have hc21 : p2.toInt = p3.toInt := ((lg_cmp_eq _ _).trans (fl_eq rfl rfl)).mp c9
      refine lv_lconst (v := 1) hx hb dX13_reckon_156 (by decide) ?_
      refine lv_goto (tgt := 161) hx hb dX13_reckon_157 (by decide) ?_
      have hk_1 : (1 : Int64).toInt = 1 := by decide
      exact mz_lret (v := 1) hx hb hr hlocks ⟨hIF, hIG, hIR, (fun _ _ => rfl), (fun _ _ => rfl), (fun _ _ => rfl)⟩ hM hS dX13_reckon_161
  · refine lv_tableOut (tgt := 149) hx hb dX13_reckon_1 (by omega) (by decide) ?_
    refine lv_lload_n hx hb dX13_reckon_149 rfl (lv_at hl 2 rfl) ?_
    refine lv_lload hx hb dX13_reckon_150 (lv_at hl 3 rfl) ?_
    refine W.lcmp hx hb dX13_reckon_152 ?_
    refine lv_if_ne (tgt := 160) hx hb dX13_reckon_153 (by decide) (fun c9 => ?_) (fun c9 => ?_)
    · have hc22 : ¬ (p2.toInt = p3.toInt) := fun h9 => c9 (((lg_cmp_eq _ _).trans (fl_eq rfl rfl)).mpr h9)
      refine lv_lconst (v := 0) hx hb dX13_reckon_160 (by decide) ?_
      have hk_0 : (0 : Int64).toInt = 0 := by decide
      exact mz_lret (v := 0) hx hb hr hlocks ⟨hIF, hIG, hIR, (fun _ _ => rfl), (fun _ _ => rfl), (fun _ _ => rfl)⟩ hM hS dX13_reckon_161
    · have hc22 : p2.toInt = p3.toInt := ((lg_cmp_eq _ _).trans (fl_eq rfl rfl)).mp c9
      refine lv_lconst (v := 1) hx hb dX13_reckon_156 (by decide) ?_
      refine lv_goto (tgt := 161) hx hb dX13_reckon_157 (by decide) ?_
      have hk_1 : (1 : Int64).toInt = 1 := by decide
      exact mz_lret (v := 1) hx hb hr hlocks ⟨hIF, hIG, hIR, (fun _ _ => rfl), (fun _ _ => rfl), (fun _ _ => rfl)⟩ hM hS dX13_reckon_161
