section
theorem hd_yX13_term : yX13_term.cls ≠ "java/lang/invoke/MethodHandle" ∧ yX13_term.cls ≠ "java/lang/invoke/VarHandle" ∧ (parseMethodDescriptor yX13_term.desc).map (fun d => d.parameters.length) = some 1 := by decide +kernel
theorem dX13_setSung_0 : decode cX13_setSung 0 = .ok (.aload_n 0, 1) := by decide +kernel
theorem dX13_setSung_1 : decode cX13_setSung 1 = .ok (.getfield 101, 3) := by decide +kernel
theorem dX13_setSung_4 : decode cX13_setSung 4 = .ok (.iconst 1, 1) := by decide +kernel
theorem dX13_setSung_5 : decode cX13_setSung 5 = .ok (.iload_n 2, 1) := by decide +kernel
theorem dX13_setSung_6 : decode cX13_setSung 6 = .ok (.i2l, 1) := by decide +kernel
theorem dX13_setSung_7 : decode cX13_setSung 7 = .ok (.lastore, 1) := by decide +kernel
theorem dX13_setSung_8 : decode cX13_setSung 8 = .ok (.aload_n 0, 1) := by decide +kernel
theorem dX13_setSung_9 : decode cX13_setSung 9 = .ok (.getfield 101, 3) := by decide +kernel
theorem dX13_setSung_12 : decode cX13_setSung 12 = .ok (.iconst 2, 1) := by decide +kernel
theorem dX13_setSung_13 : decode cX13_setSung 13 = .ok (.iload_n 1, 1) := by decide +kernel
theorem dX13_setSung_14 : decode cX13_setSung 14 = .ok (.iconst (-1), 1) := by decide +kernel
theorem dX13_setSung_36 : decode cX13_setSung 36 = .ok (.lastore, 1) := by decide +kernel
theorem dX13_setSung_37 : decode cX13_setSung 37 = .ok (.aload_n 0, 1) := by decide +kernel
theorem dX13_setSung_38 : decode cX13_setSung 38 = .ok (.getfield 101, 3) := by decide +kernel
theorem dX13_setSung_41 : decode cX13_setSung 41 = .ok (.iconst 3, 1) := by decide +kernel
theorem dX13_setSung_42 : decode cX13_setSung 42 = .ok (.iload_n 1, 1) := by decide +kernel
theorem dX13_setSung_43 : decode cX13_setSung 43 = .ok (.iconst (-1), 1) := by decide +kernel
theorem dX13_setSung_67 : decode cX13_setSung 67 = .ok (.lastore, 1) := by decide +kernel
theorem dX13_setSung_68 : decode cX13_setSung 68 = .ok (.aload_n 0, 1) := by decide +kernel
theorem dX13_setSung_69 : decode cX13_setSung 69 = .ok (.getfield 101, 3) := by decide +kernel
theorem dX13_setSung_72 : decode cX13_setSung 72 = .ok (.iconst 4, 1) := by decide +kernel
theorem dX13_setSung_73 : decode cX13_setSung 73 = .ok (.iload_n 3, 1) := by decide +kernel
theorem dX13_setSung_74 : decode cX13_setSung 74 = .ok (.i2l, 1) := by decide +kernel
theorem dX13_setSung_75 : decode cX13_setSung 75 = .ok (.lastore, 1) := by decide +kernel
theorem dX13_setSung_76 : decode cX13_setSung 76 = .ok (.aload_n 0, 1) := by decide +kernel
theorem dX13_setSung_77 : decode cX13_setSung 77 = .ok (.getfield 101, 3) := by decide +kernel
theorem dX13_setSung_80 : decode cX13_setSung 80 = .ok (.iconst 5, 1) := by decide +kernel
theorem dX13_setSung_81 : decode cX13_setSung 81 = .ok (.iload 4, 2) := by decide +kernel
theorem dX13_setSung_83 : decode cX13_setSung 83 = .ok (.i2l, 1) := by decide +kernel
theorem dX13_setSung_84 : decode cX13_setSung 84 = .ok (.lastore, 1) := by decide +kernel
theorem dX13_setSung_85 : decode cX13_setSung 85 = .ok (.aload_n 0, 1) := by decide +kernel
theorem dX13_setSung_86 : decode cX13_setSung 86 = .ok (.getfield 101, 3) := by decide +kernel
theorem dX13_setSung_89 : decode cX13_setSung 89 = .ok (.bipush 6, 2) := by decide +kernel
theorem dX13_setSung_91 : decode cX13_setSung 91 = .ok (.iload 5, 2) := by decide +kernel
theorem dX13_setSung_93 : decode cX13_setSung 93 = .ok (.i2l, 1) := by decide +kernel
theorem dX13_setSung_94 : decode cX13_setSung 94 = .ok (.lastore, 1) := by decide +kernel
theorem dX13_setSung_95 : decode cX13_setSung 95 = .ok (.aload_n 0, 1) := by decide +kernel
theorem dX13_setSung_96 : decode cX13_setSung 96 = .ok (.getfield 101, 3) := by decide +kernel
theorem dX13_setSung_99 : decode cX13_setSung 99 = .ok (.bipush 7, 2) := by decide +kernel
theorem dX13_setSung_101 : decode cX13_setSung 101 = .ok (.iload 6, 2) := by decide +kernel
theorem dX13_setSung_103 : decode cX13_setSung 103 = .ok (.i2l, 1) := by decide +kernel
theorem dX13_setSung_104 : decode cX13_setSung 104 = .ok (.lastore, 1) := by decide +kernel
theorem dX13_setSung_105 : decode cX13_setSung 105 = .ok (.aload_n 0, 1) := by decide +kernel
theorem dX13_setSung_106 : decode cX13_setSung 106 = .ok (.getfield 101, 3) := by decide +kernel
theorem dX13_setSung_109 : decode cX13_setSung 109 = .ok (.bipush 8, 2) := by decide +kernel
theorem dX13_setSung_111 : decode cX13_setSung 111 = .ok (.aload_n 0, 1) := by decide +kernel
theorem dX13_setSung_112 : decode cX13_setSung 112 = .ok (.iconst 0, 1) := by decide +kernel
theorem dX13_setSung_113 : decode cX13_setSung 113 = .ok (.invokevirtual 412, 3) := by decide +kernel
theorem dX13_setSung_116 : decode cX13_setSung 116 = .ok (.i2l, 1) := by decide +kernel
theorem dX13_setSung_117 : decode cX13_setSung 117 = .ok (.lastore, 1) := by decide +kernel
theorem dX13_setSung_118 : decode cX13_setSung 118 = .ok (.aload_n 0, 1) := by decide +kernel
theorem dX13_setSung_119 : decode cX13_setSung 119 = .ok (.getfield 101, 3) := by decide +kernel
theorem dX13_setSung_122 : decode cX13_setSung 122 = .ok (.bipush 9, 2) := by decide +kernel
theorem dX13_setSung_124 : decode cX13_setSung 124 = .ok (.aload_n 0, 1) := by decide +kernel
theorem dX13_setSung_125 : decode cX13_setSung 125 = .ok (.iconst 3, 1) := by decide +kernel
theorem dX13_setSung_126 : decode cX13_setSung 126 = .ok (.invokevirtual 412, 3) := by decide +kernel
theorem dX13_setSung_129 : decode cX13_setSung 129 = .ok (.i2l, 1) := by decide +kernel
theorem dX13_setSung_130 : decode cX13_setSung 130 = .ok (.lastore, 1) := by decide +kernel
theorem dX13_setSung_131 : decode cX13_setSung 131 = .ok (.return_, 1) := by decide +kernel
theorem dX13_setSung_44 : decode cX13_setSung 44 = .ok (.if_icmp .ne 9, 3) := by decide +kernel
theorem dX13_setSung_53 : decode cX13_setSung 53 = .ok (.aload_n 0, 1) := by decide +kernel
theorem dX13_setSung_54 : decode cX13_setSung 54 = .ok (.getfield 13, 3) := by decide +kernel
theorem dX13_setSung_57 : decode cX13_setSung 57 = .ok (.bipush 58, 2) := by decide +kernel
theorem dX13_setSung_59 : decode cX13_setSung 59 = .ok (.iconst 2, 1) := by decide +kernel
theorem dX13_setSung_60 : decode cX13_setSung 60 = .ok (.iload_n 1, 1) := by decide +kernel
theorem dX13_setSung_61 : decode cX13_setSung 61 = .ok (.imul, 1) := by decide +kernel
theorem dX13_setSung_62 : decode cX13_setSung 62 = .ok (.iadd, 1) := by decide +kernel
theorem dX13_setSung_63 : decode cX13_setSung 63 = .ok (.iconst 1, 1) := by decide +kernel
theorem dX13_setSung_64 : decode cX13_setSung 64 = .ok (.iadd, 1) := by decide +kernel
theorem dX13_setSung_65 : decode cX13_setSung 65 = .ok (.iaload, 1) := by decide +kernel
theorem dX13_setSung_66 : decode cX13_setSung 66 = .ok (.i2l, 1) := by decide +kernel
theorem dX13_setSung_47 : decode cX13_setSung 47 = .ok (.ldc2_w 263, 3) := by decide +kernel
theorem dX13_setSung_50 : decode cX13_setSung 50 = .ok (.goto 17, 3) := by decide +kernel
theorem dX13_setSung_15 : decode cX13_setSung 15 = .ok (.if_icmp .ne 9, 3) := by decide +kernel
theorem dX13_setSung_24 : decode cX13_setSung 24 = .ok (.aload_n 0, 1) := by decide +kernel
theorem dX13_setSung_25 : decode cX13_setSung 25 = .ok (.getfield 13, 3) := by decide +kernel
theorem dX13_setSung_28 : decode cX13_setSung 28 = .ok (.bipush 58, 2) := by decide +kernel
theorem dX13_setSung_30 : decode cX13_setSung 30 = .ok (.iconst 2, 1) := by decide +kernel
theorem dX13_setSung_31 : decode cX13_setSung 31 = .ok (.iload_n 1, 1) := by decide +kernel
theorem dX13_setSung_32 : decode cX13_setSung 32 = .ok (.imul, 1) := by decide +kernel
theorem dX13_setSung_33 : decode cX13_setSung 33 = .ok (.iadd, 1) := by decide +kernel
theorem dX13_setSung_34 : decode cX13_setSung 34 = .ok (.iaload, 1) := by decide +kernel
theorem dX13_setSung_35 : decode cX13_setSung 35 = .ok (.i2l, 1) := by decide +kernel
theorem dX13_setSung_18 : decode cX13_setSung 18 = .ok (.ldc2_w 263, 3) := by decide +kernel
theorem dX13_setSung_21 : decode cX13_setSung 21 = .ok (.goto 15, 3) := by decide +kernel
set_option maxHeartbeats 4000000 in
set_option maxRecDepth 100000 in
theorem k_X13_setSung (l : Launch) (D : va_G) (cy : Nat → ClassId) (ld ad : Nat → Nat) (am : Nat) (hD : mz_D ad am) (Fa : Nat → Int32) (Ga : Nat → Int64) (Ra : Nat → Nat → Int32) (Sa : Nat → Nat → Int64) (p1 : Int32) (p2 : Int32) (p3 : Int32) (p4 : Int32) (p5 : Int32) (p6 : Int32) (hIF : mz_IF true Fa) (hIG : mz_IG Ga) (hIR : mz_IR [] true Ra) (hp_0 : (-1) ≤ p1.toInt) (hp_1 : p1.toInt ≤ 9) : Met l yX13_setSung (wl yX13_setSung cX13_setSung 7 none) ({ frames := 4, cells := 0, slots := 0, locals := 210 }) (mz_p D cy ld ad am Fa Ga Ra Sa [.ref am, .int p1, .int p2, .int p3, .int p4, .int p5, .int p6]) (mz_w D cy ad am (fun F G R S => mz_IF true F ∧ mz_IG G ∧ mz_IR [] true R ∧ (∀ k : Nat, k ∉ ([] : List Nat) → F k = Fa k) ∧ (∀ k : Nat, k ∉ ([] : List Nat) → R k = Ra k) ∧ (∀ k : Nat, k ∉ ([] : List Nat) → G k = Ga k))) 0 0 (mz_W ad am) := by
  refine mz_met (y := yX13_setSung) (cc := cX13_setSung) (maxL := 7) (ret := none) (av := [.ref am, .int p1, .int p2, .int p3, .int p4, .int p5, .int p6]) _ (by decide) (Nat.le_of_ble_eq_true rfl) ?_
  intro p e s m args below meth c hx hb hr hml hts htl hown hlocks hK H locs hM hS ls hl
  have hown : s.vm.findClass RX13 = some m.cls := hown
  have hl : lv_has ls 7 [(0, .ref am), (1, .int p1), (2, .int p2), (3, .int p3), (4, .int p4), (5, .int p5), (6, .int p6)] := hl
  have hr_p1 := tk_rng p1
  have hr_p2 := tk_rng p2
  have hr_p3 := tk_rng p3
  have hr_p4 := tk_rng p4
  have hr_p5 := tk_rng p5
  have hr_p6 := tk_rng p6
  refine lv_aload_n hx hb dX13_setSung_0 rfl (lv_at hl 0 rfl) ?_
  refine mz_getR hx hb htl hown hK hM 35 (Nat.le_of_ble_eq_true rfl) (Nat.le_of_ble_eq_true rfl) (htl _ mw_223) (fun _ h9 => h9) dX13_setSung_1 ?_
  refine lv_iconst (v := 1) hx hb dX13_setSung_4 (by decide) ?_
  refine lv_iload_n hx hb dX13_setSung_5 rfl (lv_at hl 2 rfl) ?_
  obtain ⟨w1, e_w1, h_w1⟩ : ∃ z : Int64, p2.toInt64 = z ∧ z.toInt = p2.toInt := ⟨_, rfl, fl_w _⟩
  refine lv_i2l (v := w1) hx hb dX13_setSung_6 e_w1 ?_
  have hk_1 : (1 : Int32).toInt = 1 := by decide
  refine mz_last (x := w1) hx hb hK hD hM hS 35 (Nat.le_of_ble_eq_true rfl) rfl (nn := 13) rfl (I := 1) (by decide) (by decide) (by decide) dX13_setSung_7 (fun H locs S hM hS _ _ => ?_)
  refine lv_aload_n hx hb dX13_setSung_8 rfl (lv_at hl 0 rfl) ?_
  refine mz_getR hx hb htl hown hK hM 35 (Nat.le_of_ble_eq_true rfl) (Nat.le_of_ble_eq_true rfl) (htl _ mw_223) (fun _ h9 => h9) dX13_setSung_9 ?_
  refine lv_iconst (v := 2) hx hb dX13_setSung_12 (by decide) ?_
  refine lv_iload_n hx hb dX13_setSung_13 rfl (lv_at hl 1 rfl) ?_
  refine lv_iconst (v := (-1)) hx hb dX13_setSung_14 (by decide) ?_
  have hj13 : ∀ (v12 : Int64), ∀ ls : Array Slot, lv_has ls 7 [(0, .ref am), (1, .int p1), (3, .int p3), (4, .int p4), (5, .int p5), (6, .int p6)] → W p l e ({ frames := 4, cells := 0, slots := 0, locals := 210 }) s m args below meth c H locs 0 0 (MQ below (mz_w D cy ad am (fun F G R S => mz_IF true F ∧ mz_IG G ∧ mz_IR [] true R ∧ (∀ k : Nat, k ∉ ([] : List Nat) → F k = Fa k) ∧ (∀ k : Nat, k ∉ ([] : List Nat) → R k = Ra k) ∧ (∀ k : Nat, k ∉ ([] : List Nat) → G k = Ga k))) args s 0 0 (mz_W ad am)) (F0 m 36 ls [.long v12, .int 2, .ref (ad 35)]) := by
    intro v12  ls hl
    have hk_2 : (2 : Int32).toInt = 2 := by decide
    refine mz_last (x := v12) hx hb hK hD hM hS 35 (Nat.le_of_ble_eq_true rfl) rfl (nn := 13) rfl (I := 2) (by decide) (by decide) (by decide) dX13_setSung_36 (fun H locs S hM hS _ _ => ?_)
    refine lv_aload_n hx hb dX13_setSung_37 rfl (lv_at hl 0 rfl) ?_
    refine mz_getR hx hb htl hown hK hM 35 (Nat.le_of_ble_eq_true rfl) (Nat.le_of_ble_eq_true rfl) (htl _ mw_223) (fun _ h9 => h9) dX13_setSung_38 ?_
    refine lv_iconst (v := 3) hx hb dX13_setSung_41 (by decide) ?_
    refine lv_iload_n hx hb dX13_setSung_42 rfl (lv_at hl 1 rfl) ?_
    refine lv_iconst (v := (-1)) hx hb dX13_setSung_43 (by decide) ?_
    have hj23 : ∀ (v22 : Int64), ∀ ls : Array Slot, lv_has ls 7 [(0, .ref am), (3, .int p3), (4, .int p4), (5, .int p5), (6, .int p6)] → W p l e ({ frames := 4, cells := 0, slots := 0, locals := 210 }) s m args below meth c H locs 0 0 (MQ below (mz_w D cy ad am (fun F G R S => mz_IF true F ∧ mz_IG G ∧ mz_IR [] true R ∧ (∀ k : Nat, k ∉ ([] : List Nat) → F k = Fa k) ∧ (∀ k : Nat, k ∉ ([] : List Nat) → R k = Ra k) ∧ (∀ k : Nat, k ∉ ([] : List Nat) → G k = Ga k))) args s 0 0 (mz_W ad am)) (F0 m 67 ls [.long v22, .int 3, .ref (ad 35)]) := by
      intro v22  ls hl
      have hk_3 : (3 : Int32).toInt = 3 := by decide
      refine mz_last (x := v22) hx hb hK hD hM hS 35 (Nat.le_of_ble_eq_true rfl) rfl (nn := 13) rfl (I := 3) (by decide) (by decide) (by decide) dX13_setSung_67 (fun H locs S hM hS _ _ => ?_)
      refine lv_aload_n hx hb dX13_setSung_68 rfl (lv_at hl 0 rfl) ?_
      refine mz_getR hx hb htl hown hK hM 35 (Nat.le_of_ble_eq_true rfl) (Nat.le_of_ble_eq_true rfl) (htl _ mw_223) (fun _ h9 => h9) dX13_setSung_69 ?_
      refine lv_iconst (v := 4) hx hb dX13_setSung_72 (by decide) ?_
      refine lv_iload_n hx hb dX13_setSung_73 rfl (lv_at hl 1 rfl) ?_
      obtain ⟨w25, e_w25, h_w25⟩ : ∃ z : Int64, p3.toInt64 = z ∧ z.toInt = p3.toInt := ⟨_, rfl, fl_w _⟩
      refine lv_i2l (v := w25) hx hb dX13_setSung_74 e_w25 ?_
      have hk_4 : (4 : Int32).toInt = 4 := by decide
      refine mz_last (x := w25) hx hb hK hD hM hS 35 (Nat.le_of_ble_eq_true rfl) rfl (nn := 13) rfl (I := 4) (by decide) (by decide) (by decide) dX13_setSung_75 (fun H locs S hM hS _ _ => ?_)
      refine lv_aload_n hx hb dX13_setSung_76 rfl (lv_at hl 0 rfl) ?_
      refine mz_getR hx hb htl hown hK hM 35 (Nat.le_of_ble_eq_true rfl) (Nat.le_of_ble_eq_true rfl) (htl _ mw_223) (fun _ h9 => h9) dX13_setSung_77 ?_
      refine lv_iconst (v := 5) hx hb dX13_setSung_80 (by decide) ?_
      refine lv_iload hx hb dX13_setSung_81 (lv_at hl 2 rfl) ?_
      obtain ⟨w27, e_w27, h_w27⟩ : ∃ z : Int64, p4.toInt64 = z ∧ z.toInt = p4.toInt := ⟨_, rfl, fl_w _⟩
      refine lv_i2l (v := w27) hx hb dX13_setSung_83 e_w27 ?_
      have hk_5 : (5 : Int32).toInt = 5 := by decide
      refine mz_last (x := w27) hx hb hK hD hM hS 35 (Nat.le_of_ble_eq_true rfl) rfl (nn := 13) rfl (I := 5) (by decide) (by decide) (by decide) dX13_setSung_84 (fun H locs S hM hS _ _ => ?_)
      refine lv_aload_n hx hb dX13_setSung_85 rfl (lv_at hl 0 rfl) ?_
      refine mz_getR hx hb htl hown hK hM 35 (Nat.le_of_ble_eq_true rfl) (Nat.le_of_ble_eq_true rfl) (htl _ mw_223) (fun _ h9 => h9) dX13_setSung_86 ?_
      refine lv_bipush (v := 6) hx hb dX13_setSung_89 (by decide) ?_
      refine lv_iload hx hb dX13_setSung_91 (lv_at hl 3 rfl) ?_
      obtain ⟨w29, e_w29, h_w29⟩ : ∃ z : Int64, p5.toInt64 = z ∧ z.toInt = p5.toInt := ⟨_, rfl, fl_w _⟩
      refine lv_i2l (v := w29) hx hb dX13_setSung_93 e_w29 ?_
      have hk_6 : (6 : Int32).toInt = 6 := by decide
      refine mz_last (x := w29) hx hb hK hD hM hS 35 (Nat.le_of_ble_eq_true rfl) rfl (nn := 13) rfl (I := 6) (by decide) (by decide) (by decide) dX13_setSung_94 (fun H locs S hM hS _ _ => ?_)
      refine lv_aload_n hx hb dX13_setSung_95 rfl (lv_at hl 0 rfl) ?_
      refine mz_getR hx hb htl hown hK hM 35 (Nat.le_of_ble_eq_true rfl) (Nat.le_of_ble_eq_true rfl) (htl _ mw_223) (fun _ h9 => h9) dX13_setSung_96 ?_
      refine lv_bipush (v := 7) hx hb dX13_setSung_99 (by decide) ?_
      refine lv_iload hx hb dX13_setSung_101 (lv_at hl 4 rfl) ?_
      obtain ⟨w31, e_w31, h_w31⟩ : ∃ z : Int64, p6.toInt64 = z ∧ z.toInt = p6.toInt := ⟨_, rfl, fl_w _⟩
      refine lv_i2l (v := w31) hx hb dX13_setSung_103 e_w31 ?_
      have hk_7 : (7 : Int32).toInt = 7 := by decide
      refine mz_last (x := w31) hx hb hK hD hM hS 35 (Nat.le_of_ble_eq_true rfl) rfl (nn := 13) rfl (I := 7) (by decide) (by decide) (by decide) dX13_setSung_104 (fun H locs S hM hS _ _ => ?_)
      refine lv_aload_n hx hb dX13_setSung_105 rfl (lv_at hl 0 rfl) ?_
      refine mz_getR hx hb htl hown hK hM 35 (Nat.le_of_ble_eq_true rfl) (Nat.le_of_ble_eq_true rfl) (htl _ mw_223) (fun _ h9 => h9) dX13_setSung_106 ?_
      refine lv_bipush (v := 8) hx hb dX13_setSung_109 (by decide) ?_
      refine lv_aload_n hx hb dX13_setSung_111 rfl (lv_at hl 0 rfl) ?_
      refine lv_iconst (v := 0) hx hb dX13_setSung_112 (by decide) ?_
      obtain ⟨v34, hf33⟩ : ∃ z : Int32, Ra 3 6 = z := ⟨_, rfl⟩
      have hq_v34 := tk_rng v34
      have hk_0 : (0 : Int32).toInt = 0 := by decide
      refine mz_Vj (As := [.int 0]) (rest := [.int 8, .ref (ad 35)]) ⟨hx, hb, hml, hown, hts⟩ hK hM hS (k_X13_term_0 l D cy ld ad am hD _ _ _ _ v34 hf33) ⟨callB_of 1 hts (wl_in mw_1042) rfl rfl rfl (htl _ mw_5) (htl _ mw_1039) hd_yX13_term ⟨(Nat.le_of_ble_eq_true rfl), (Nat.le_of_ble_eq_true rfl)⟩, htl _ mw_1040, htl _ mw_1041⟩ rfl hl.1 rfl (Nat.le_of_ble_eq_true rfl) dX13_setSung_113 ⟨(Nat.le_of_ble_eq_true rfl), (Nat.le_of_ble_eq_true rfl)⟩ (fun v35 H locs hpo hM hS => ?_)
      have hpo36 := hpo
      have hq_v35 := tk_rng v35
      obtain ⟨w38, e_w38, h_w38⟩ : ∃ z : Int64, v35.toInt64 = z ∧ z.toInt = v35.toInt := ⟨_, rfl, fl_w _⟩
      refine lv_i2l (v := w38) hx hb dX13_setSung_116 e_w38 ?_
      have hk_8 : (8 : Int32).toInt = 8 := by decide
      refine mz_last (x := w38) hx hb hK hD hM hS 35 (Nat.le_of_ble_eq_true rfl) rfl (nn := 13) rfl (I := 8) (by decide) (by decide) (by decide) dX13_setSung_117 (fun H locs S hM hS _ _ => ?_)
      refine lv_aload_n hx hb dX13_setSung_118 rfl (lv_at hl 0 rfl) ?_
      refine mz_getR hx hb htl hown hK hM 35 (Nat.le_of_ble_eq_true rfl) (Nat.le_of_ble_eq_true rfl) (htl _ mw_223) (fun _ h9 => h9) dX13_setSung_119 ?_
      refine lv_bipush (v := 9) hx hb dX13_setSung_122 (by decide) ?_
      refine lv_aload_n hx hb dX13_setSung_124 rfl (lv_at hl 0 rfl) ?_
      refine lv_iconst (v := 3) hx hb dX13_setSung_125 (by decide) ?_
      obtain ⟨v41, hf40⟩ : ∃ z : Int32, Ra 3 9 = z := ⟨_, rfl⟩
      have hq_v41 := tk_rng v41
      have hk_3 : (3 : Int32).toInt = 3 := by decide
      refine mz_Vj (As := [.int 3]) (rest := [.int 9, .ref (ad 35)]) ⟨hx, hb, hml, hown, hts⟩ hK hM hS (k_X13_term_3 l D cy ld ad am hD _ _ _ _ v41 hf40) ⟨callB_of 1 hts (wl_in mw_1042) rfl rfl rfl (htl _ mw_5) (htl _ mw_1039) hd_yX13_term ⟨(Nat.le_of_ble_eq_true rfl), (Nat.le_of_ble_eq_true rfl)⟩, htl _ mw_1040, htl _ mw_1041⟩ rfl hl.1 rfl (Nat.le_of_ble_eq_true rfl) dX13_setSung_126 ⟨(Nat.le_of_ble_eq_true rfl), (Nat.le_of_ble_eq_true rfl)⟩ (fun v42 H locs hpo hM hS => ?_)
      have hpo43 := hpo
      have hq_v42 := tk_rng v42
      obtain ⟨w45, e_w45, h_w45⟩ : ∃ z : Int64, v42.toInt64 = z ∧ z.toInt = v42.toInt := ⟨_, rfl, fl_w _⟩
      refine lv_i2l (v := w45) hx hb dX13_setSung_129 e_w45 ?_
      have hk_9 : (9 : Int32).toInt = 9 := by decide
      refine mz_last (x := w45) hx hb hK hD hM hS 35 (Nat.le_of_ble_eq_true rfl) rfl (nn := 13) rfl (I := 9) (by decide) (by decide) (by decide) dX13_setSung_130 (fun H locs S hM hS _ _ => ?_)
      exact mz_vret hx hb hr hlocks ⟨hIF, hIG, hIR, (fun _ _ => rfl), (fun _ _ => rfl), (fun _ _ => rfl)⟩ hM hS dX13_setSung_131
    refine lv_icmp_ne (tgt := 53) hx hb dX13_setSung_44 (by decide) (fun c9 => ?_) (fun c9 => ?_)
    · have hc15 : ¬ (p1.toInt = (-1)) := fun h9 => c9 ((fi_eq rfl (show ((-1) : Int32).toInt = (-1) by decide)).mpr h9)
      refine lv_aload_n hx hb dX13_setSung_53 rfl (lv_at hl 0 rfl) ?_
      refine mz_getR hx hb htl hown hK hM 3 (Nat.le_of_ble_eq_true rfl) (Nat.le_of_ble_eq_true rfl) (htl _ mw_188) (fun _ h9 => h9) dX13_setSung_54 ?_
      refine lv_bipush (v := 58) hx hb dX13_setSung_57 (by decide) ?_
      refine lv_iconst (v := 2) hx hb dX13_setSung_59 (by decide) ?_
      refine lv_iload_n hx hb dX13_setSung_60 rfl (lv_at hl 1 rfl) ?_
      refine lv_imul hx hb dX13_setSung_61 ?_
      refine tk_mul (show (2 : Int32).toInt = 2 by decide) rfl (by omega) (by omega) (fun v47 h_v47 => ?_)
      refine lv_iadd hx hb dX13_setSung_62 ?_
      refine tk_add (show (58 : Int32).toInt = 58 by decide) rfl (by omega) (by omega) (fun v48 h_v48 => ?_)
      refine lv_iconst (v := 1) hx hb dX13_setSung_63 (by decide) ?_
      refine lv_iadd hx hb dX13_setSung_64 ?_
      refine tk_add rfl (show (1 : Int32).toInt = 1 by decide) (by omega) (by omega) (fun v49 h_v49 => ?_)
      refine mz_iald hx hb hK hM 3 (Nat.le_of_ble_eq_true rfl) rfl (nn := 5560) rfl rfl (by omega) (by omega) dX13_setSung_65 (fun v50 e_v50 => ?_)
      have hq_v50 := tk_rng v50
      obtain ⟨w51, e_w51, h_w51⟩ : ∃ z : Int64, v50.toInt64 = z ∧ z.toInt = v50.toInt := ⟨_, rfl, fl_w _⟩
      refine lv_i2l (v := w51) hx hb dX13_setSung_66 e_w51 ?_
      exact hj23 w51 _ (lv_sub hl [0, 2, 3, 4, 5] rfl)
    · have hc15 : p1.toInt = (-1) := (fi_eq rfl (show ((-1) : Int32).toInt = (-1) by decide)).mp c9
      refine lv_ldc2 hx hb hown (htl _ mw_691) dX13_setSung_47 ?_
      refine lv_goto (tgt := 67) hx hb dX13_setSung_50 (by decide) ?_
      have hk_m1 : ((-1) : Int64).toInt = (-1) := by decide
      exact hj23 (-1) _ (lv_sub hl [0, 2, 3, 4, 5] rfl)
  refine lv_icmp_ne (tgt := 24) hx hb dX13_setSung_15 (by decide) (fun c9 => ?_) (fun c9 => ?_)
  · have hc3 : ¬ (p1.toInt = (-1)) := fun h9 => c9 ((fi_eq rfl (show ((-1) : Int32).toInt = (-1) by decide)).mpr h9)
    refine lv_aload_n hx hb dX13_setSung_24 rfl (lv_at hl 0 rfl) ?_
    refine mz_getR hx hb htl hown hK hM 3 (Nat.le_of_ble_eq_true rfl) (Nat.le_of_ble_eq_true rfl) (htl _ mw_188) (fun _ h9 => h9) dX13_setSung_25 ?_
    refine lv_bipush (v := 58) hx hb dX13_setSung_28 (by decide) ?_
    refine lv_iconst (v := 2) hx hb dX13_setSung_30 (by decide) ?_
    refine lv_iload_n hx hb dX13_setSung_31 rfl (lv_at hl 1 rfl) ?_
    refine lv_imul hx hb dX13_setSung_32 ?_
    refine tk_mul (show (2 : Int32).toInt = 2 by decide) rfl (by omega) (by omega) (fun v52 h_v52 => ?_)
    refine lv_iadd hx hb dX13_setSung_33 ?_
    refine tk_add (show (58 : Int32).toInt = 58 by decide) rfl (by omega) (by omega) (fun v53 h_v53 => ?_)
    refine mz_iald hx hb hK hM 3 (Nat.le_of_ble_eq_true rfl) rfl (nn := 5560) rfl rfl (by omega) (by omega) dX13_setSung_34 (fun v54 e_v54 => ?_)
    have hq_v54 := tk_rng v54
    obtain ⟨w55, e_w55, h_w55⟩ : ∃ z : Int64, v54.toInt64 = z ∧ z.toInt = v54.toInt := ⟨_, rfl, fl_w _⟩
    refine lv_i2l (v := w55) hx hb dX13_setSung_35 e_w55 ?_
    exact hj13 w55 _ (lv_sub hl [0, 1, 3, 4, 5, 6] rfl)
  · have hc3 : p1.toInt = (-1) := (fi_eq rfl (show ((-1) : Int32).toInt = (-1) by decide)).mp c9
    refine lv_ldc2 hx hb hown (htl _ mw_691) dX13_setSung_18 ?_
    refine lv_goto (tgt := 36) hx hb dX13_setSung_21 (by decide) ?_
    have hk_m1 : ((-1) : Int64).toInt = (-1) := by decide
    exact hj13 (-1) _ (lv_sub hl [0, 1, 3, 4, 5, 6] rfl)
end
section
theorem hd_yX13_tells : yX13_tells.cls ≠ "java/lang/invoke/MethodHandle" ∧ yX13_tells.cls ≠ "java/lang/invoke/VarHandle" ∧ (parseMethodDescriptor yX13_tells.desc).map (fun d => d.parameters.length) = some 2 := by decide +kernel
theorem hd_yX13_within : yX13_within.cls ≠ "java/lang/invoke/MethodHandle" ∧ yX13_within.cls ≠ "java/lang/invoke/VarHandle" ∧ (parseMethodDescriptor yX13_within.desc).map (fun d => d.parameters.length) = some 3 := by decide +kernel
theorem dX13_lullsSet_0 : decode cX13_lullsSet 0 = .ok (.aload_n 0, 1) := by decide +kernel
theorem dX13_lullsSet_1 : decode cX13_lullsSet 1 = .ok (.iconst 0, 1) := by decide +kernel
theorem dX13_lullsSet_2 : decode cX13_lullsSet 2 = .ok (.aload_n 0, 1) := by decide +kernel
theorem dX13_lullsSet_3 : decode cX13_lullsSet 3 = .ok (.getfield 101, 3) := by decide +kernel
theorem dX13_lullsSet_6 : decode cX13_lullsSet 6 = .ok (.iconst 2, 1) := by decide +kernel
theorem dX13_lullsSet_7 : decode cX13_lullsSet 7 = .ok (.laload, 1) := by decide +kernel
theorem dX13_lullsSet_8 : decode cX13_lullsSet 8 = .ok (.aload_n 0, 1) := by decide +kernel
theorem dX13_lullsSet_9 : decode cX13_lullsSet 9 = .ok (.getfield 101, 3) := by decide +kernel
theorem dX13_lullsSet_12 : decode cX13_lullsSet 12 = .ok (.iconst 5, 1) := by decide +kernel
theorem dX13_lullsSet_13 : decode cX13_lullsSet 13 = .ok (.laload, 1) := by decide +kernel
theorem dX13_lullsSet_14 : decode cX13_lullsSet 14 = .ok (.ladd, 1) := by decide +kernel
theorem dX13_lullsSet_15 : decode cX13_lullsSet 15 = .ok (.aload_n 0, 1) := by decide +kernel
theorem dX13_lullsSet_16 : decode cX13_lullsSet 16 = .ok (.getfield 101, 3) := by decide +kernel
theorem dX13_lullsSet_19 : decode cX13_lullsSet 19 = .ok (.iconst 4, 1) := by decide +kernel
theorem dX13_lullsSet_20 : decode cX13_lullsSet 20 = .ok (.laload, 1) := by decide +kernel
theorem dX13_lullsSet_21 : decode cX13_lullsSet 21 = .ok (.lconst 1, 1) := by decide +kernel
theorem dX13_lullsSet_22 : decode cX13_lullsSet 22 = .ok (.lcmp, 1) := by decide +kernel
theorem dX13_lullsSet_33 : decode cX13_lullsSet 33 = .ok (.lmul, 1) := by decide +kernel
theorem dX13_lullsSet_34 : decode cX13_lullsSet 34 = .ok (.invokevirtual 417, 3) := by decide +kernel
theorem dX13_lullsSet_37 : decode cX13_lullsSet 37 = .ok (.iconst 0, 1) := by decide +kernel
theorem dX13_lullsSet_38 : decode cX13_lullsSet 38 = .ok (.sipush 999, 3) := by decide +kernel
theorem dX13_lullsSet_41 : decode cX13_lullsSet 41 = .ok (.invokestatic 421, 3) := by decide +kernel
theorem dX13_lullsSet_44 : decode cX13_lullsSet 44 = .ok (.ireturn, 1) := by decide +kernel
theorem dX13_lullsSet_23 : decode cX13_lullsSet 23 = .ok (.ifCond .ne 9, 3) := by decide +kernel
theorem dX13_lullsSet_32 : decode cX13_lullsSet 32 = .ok (.lconst 1, 1) := by decide +kernel
theorem dX13_lullsSet_26 : decode cX13_lullsSet 26 = .ok (.ldc2_w 415, 3) := by decide +kernel
theorem dX13_lullsSet_29 : decode cX13_lullsSet 29 = .ok (.goto 4, 3) := by decide +kernel
set_option maxHeartbeats 4000000 in
set_option maxRecDepth 100000 in
theorem k_X13_lullsSet (l : Launch) (D : va_G) (cy : Nat → ClassId) (ld ad : Nat → Nat) (am : Nat) (hD : mz_D ad am) (Fa : Nat → Int32) (Ga : Nat → Int64) (Ra : Nat → Nat → Int32) (Sa : Nat → Nat → Int64) (hIF : mz_IF true Fa) (hIG : mz_IG Ga) (hIR : mz_IR [] true Ra) : Met l yX13_lullsSet (wl yX13_lullsSet cX13_lullsSet 1 (some .int)) ({ frames := 8, cells := 0, slots := 0, locals := 490 }) (mz_p D cy ld ad am Fa Ga Ra Sa [.ref am]) (mz_i D cy ad am (fun r F G R S => mz_IF true F ∧ mz_IG G ∧ mz_IR [] true R ∧ (∀ k : Nat, k ∉ ([34, 38] : List Nat) → F k = Fa k) ∧ (∀ k : Nat, k ∉ ([] : List Nat) → R k = Ra k) ∧ (∀ k : Nat, k ∉ ([39, 40] : List Nat) → G k = Ga k) ∧ 0 ≤ r.toInt ∧ r.toInt ≤ 999)) 0 0 (mz_W ad am) := by
  refine mz_met (y := yX13_lullsSet) (cc := cX13_lullsSet) (maxL := 1) (ret := (some .int)) (av := [.ref am]) _ (by decide) (Nat.le_of_ble_eq_true rfl) ?_
  intro p e s m args below meth c hx hb hr hml hts htl hown hlocks hK H locs hM hS ls hl
  have hown : s.vm.findClass RX13 = some m.cls := hown
  have hl : lv_has ls 1 [(0, .ref am)] := hl
  refine lv_aload_n hx hb dX13_lullsSet_0 rfl (lv_at hl 0 rfl) ?_
  refine lv_iconst (v := 0) hx hb dX13_lullsSet_1 (by decide) ?_
  refine lv_aload_n hx hb dX13_lullsSet_2 rfl (lv_at hl 0 rfl) ?_
  refine mz_getR hx hb htl hown hK hM 35 (Nat.le_of_ble_eq_true rfl) (Nat.le_of_ble_eq_true rfl) (htl _ mw_223) (fun _ h9 => h9) dX13_lullsSet_3 ?_
  refine lv_iconst (v := 2) hx hb dX13_lullsSet_6 (by decide) ?_
  refine mz_lald hx hb hK hM 35 (Nat.le_of_ble_eq_true rfl) rfl (nn := 13) rfl (I := 2) (by decide) (by decide) (by decide) dX13_lullsSet_7 (fun w1 _ => ?_)
  refine lv_aload_n hx hb dX13_lullsSet_8 rfl (lv_at hl 0 rfl) ?_
  refine mz_getR hx hb htl hown hK hM 35 (Nat.le_of_ble_eq_true rfl) (Nat.le_of_ble_eq_true rfl) (htl _ mw_223) (fun _ h9 => h9) dX13_lullsSet_9 ?_
  refine lv_iconst (v := 5) hx hb dX13_lullsSet_12 (by decide) ?_
  refine mz_lald hx hb hK hM 35 (Nat.le_of_ble_eq_true rfl) rfl (nn := 13) rfl (I := 5) (by decide) (by decide) (by decide) dX13_lullsSet_13 (fun w2 _ => ?_)
  refine lv_ladd hx hb dX13_lullsSet_14 ?_
  refine tk_anyl (fun w3 => ?_)
  refine lv_aload_n hx hb dX13_lullsSet_15 rfl (lv_at hl 0 rfl) ?_
  refine mz_getR hx hb htl hown hK hM 35 (Nat.le_of_ble_eq_true rfl) (Nat.le_of_ble_eq_true rfl) (htl _ mw_223) (fun _ h9 => h9) dX13_lullsSet_16 ?_
  refine lv_iconst (v := 4) hx hb dX13_lullsSet_19 (by decide) ?_
  refine mz_lald hx hb hK hM 35 (Nat.le_of_ble_eq_true rfl) rfl (nn := 13) rfl (I := 4) (by decide) (by decide) (by decide) dX13_lullsSet_20 (fun w4 _ => ?_)
  refine lv_lconst (v := 1) hx hb dX13_lullsSet_21 (by decide) ?_
  refine W.lcmp hx hb dX13_lullsSet_22 ?_
  have hj11 : ∀ (v10 : Int64), (1 ≤ v10.toInt) → (v10.toInt ≤ 2) → ∀ ls : Array Slot, lv_has ls 1 [] → W p l e ({ frames := 8, cells := 0, slots := 0, locals := 490 }) s m args below meth c H locs 0 0 (MQ below (mz_i D cy ad am (fun r F G R S => mz_IF true F ∧ mz_IG G ∧ mz_IR [] true R ∧ (∀ k : Nat, k ∉ ([34, 38] : List Nat) → F k = Fa k) ∧ (∀ k : Nat, k ∉ ([] : List Nat) → R k = Ra k) ∧ (∀ k : Nat, k ∉ ([39, 40] : List Nat) → G k = Ga k) ∧ 0 ≤ r.toInt ∧ r.toInt ≤ 999)) args s 0 0 (mz_W ad am)) (F0 m 33 ls [.long v10, .long w3, .int 0, .ref am]) := by
    intro v10 hq0_j11 hq1_j11 ls hl
    refine lv_lmul hx hb dX13_lullsSet_33 ?_
    refine tk_anyl (fun w12 => ?_)
    have hk_0 : (0 : Int32).toInt = 0 := by decide
    refine mz_Vl (As := [.int 0, .long w12]) (rest := []) ⟨hx, hb, hml, hown, hts⟩ hK hM hS (k_X13_tells l D cy ld ad am hD _ _ _ _ 0 w12 hIF hIG hIR) ⟨callB_of 2 hts (wl_in mw_1107) rfl rfl rfl (htl _ mw_5) (htl _ mw_1104) hd_yX13_tells ⟨(Nat.le_of_ble_eq_true rfl), (Nat.le_of_ble_eq_true rfl)⟩, htl _ mw_1105, htl _ mw_1106⟩ rfl hl.1 rfl (Nat.le_of_ble_eq_true rfl) dX13_lullsSet_34 ⟨(Nat.le_of_ble_eq_true rfl), (Nat.le_of_ble_eq_true rfl)⟩ (fun w13 H locs F G R S hpo hM hS => ?_)
    obtain ⟨hIF, hIG, hIR, hfr9, hrr9, hgr9⟩ := hpo
    have hq_w13 := tk_rngL w13
    have hFF := mz_fr (K := [34, 38]) (Fa := Fa) hfr9 (fun _ _ => rfl) (by decide)
    have hRR := mz_fr (K := []) (Fa := Ra) hrr9 (fun _ _ => rfl) (by decide)
    have hGG := mz_fr (K := [39, 40]) (Fa := Ga) hgr9 (fun _ _ => rfl) (by decide)
    refine lv_iconst (v := 0) hx hb dX13_lullsSet_37 (by decide) ?_
    refine lv_sipush (v := 999) hx hb dX13_lullsSet_38 (by decide) ?_
    have hk_0 : (0 : Int32).toInt = 0 := by decide
    have hk_999 : (999 : Int32).toInt = 999 := by decide
    refine mz_Sj (As := [.long w13, .int 0, .int 999]) (rest := []) ⟨hx, hb, hml, hown, hts⟩ hK hM hS (k_X13_within l D cy ld ad am hD _ _ _ _ w13 0 999 (by omega)) ⟨callB_of 3 hts (wl_in mw_1125) rfl rfl rfl (htl _ mw_5) (htl _ mw_1123) hd_yX13_within ⟨(Nat.le_of_ble_eq_true rfl), (Nat.le_of_ble_eq_true rfl)⟩, htl _ mw_1124⟩ rfl hl.1 rfl (Nat.le_of_ble_eq_true rfl) dX13_lullsSet_41 ⟨(Nat.le_of_ble_eq_true rfl), (Nat.le_of_ble_eq_true rfl)⟩ (fun v15 H locs hpo hM hS => ?_)
    obtain ⟨hpo16, hpo17⟩ := hpo
    have hq_v15 := tk_rng v15
    exact mz_iret (v := v15) hx hb hr rfl hlocks ⟨hIF, hIG, hIR, hFF, hRR, hGG, (by omega), (by omega)⟩ hM hS dX13_lullsSet_44
  refine lv_if_ne (tgt := 32) hx hb dX13_lullsSet_23 (by decide) (fun c9 => ?_) (fun c9 => ?_)
  · have hc5 : ¬ (w4.toInt = 1) := fun h9 => c9 (((lg_cmp_eq _ _).trans (fl_eq rfl (show (1 : Int64).toInt = 1 by decide))).mpr h9)
    refine lv_lconst (v := 1) hx hb dX13_lullsSet_32 (by decide) ?_
    have hk_1 : (1 : Int64).toInt = 1 := by decide
    exact hj11 1 (by omega) (by omega) _ (lv_sub hl [] rfl)
  · have hc5 : w4.toInt = 1 := ((lg_cmp_eq _ _).trans (fl_eq rfl (show (1 : Int64).toInt = 1 by decide))).mp c9
    refine lv_ldc2 hx hb hown (htl _ mw_1122) dX13_lullsSet_26 ?_
    refine lv_goto (tgt := 33) hx hb dX13_lullsSet_29 (by decide) ?_
    have hk_2 : (2 : Int64).toInt = 2 := by decide
    exact hj11 2 (by omega) (by omega) _ (lv_sub hl [] rfl)
end
section
theorem dX13_tiresSet_0 : decode cX13_tiresSet 0 = .ok (.aload_n 0, 1) := by decide +kernel
theorem dX13_tiresSet_1 : decode cX13_tiresSet 1 = .ok (.iconst 1, 1) := by decide +kernel
theorem dX13_tiresSet_2 : decode cX13_tiresSet 2 = .ok (.aload_n 0, 1) := by decide +kernel
theorem dX13_tiresSet_3 : decode cX13_tiresSet 3 = .ok (.getfield 101, 3) := by decide +kernel
theorem dX13_tiresSet_6 : decode cX13_tiresSet 6 = .ok (.iconst 2, 1) := by decide +kernel
theorem dX13_tiresSet_7 : decode cX13_tiresSet 7 = .ok (.laload, 1) := by decide +kernel
theorem dX13_tiresSet_8 : decode cX13_tiresSet 8 = .ok (.ldc2_w 205, 3) := by decide +kernel
theorem dX13_tiresSet_11 : decode cX13_tiresSet 11 = .ok (.ldiv, 1) := by decide +kernel
theorem dX13_tiresSet_12 : decode cX13_tiresSet 12 = .ok (.invokevirtual 417, 3) := by decide +kernel
theorem dX13_tiresSet_15 : decode cX13_tiresSet 15 = .ok (.iconst 0, 1) := by decide +kernel
theorem dX13_tiresSet_16 : decode cX13_tiresSet 16 = .ok (.bipush 99, 2) := by decide +kernel
theorem dX13_tiresSet_18 : decode cX13_tiresSet 18 = .ok (.invokestatic 421, 3) := by decide +kernel
theorem dX13_tiresSet_21 : decode cX13_tiresSet 21 = .ok (.ireturn, 1) := by decide +kernel
set_option maxHeartbeats 4000000 in
set_option maxRecDepth 100000 in
theorem k_X13_tiresSet (l : Launch) (D : va_G) (cy : Nat → ClassId) (ld ad : Nat → Nat) (am : Nat) (hD : mz_D ad am) (Fa : Nat → Int32) (Ga : Nat → Int64) (Ra : Nat → Nat → Int32) (Sa : Nat → Nat → Int64) (hIF : mz_IF true Fa) (hIG : mz_IG Ga) (hIR : mz_IR [] true Ra) : Met l yX13_tiresSet (wl yX13_tiresSet cX13_tiresSet 1 (some .int)) ({ frames := 8, cells := 0, slots := 0, locals := 490 }) (mz_p D cy ld ad am Fa Ga Ra Sa [.ref am]) (mz_i D cy ad am (fun r F G R S => mz_IF true F ∧ mz_IG G ∧ mz_IR [] true R ∧ (∀ k : Nat, k ∉ ([34, 38] : List Nat) → F k = Fa k) ∧ (∀ k : Nat, k ∉ ([] : List Nat) → R k = Ra k) ∧ (∀ k : Nat, k ∉ ([39, 40] : List Nat) → G k = Ga k) ∧ 0 ≤ r.toInt ∧ r.toInt ≤ 99)) 0 0 (mz_W ad am) := by
  refine mz_met (y := yX13_tiresSet) (cc := cX13_tiresSet) (maxL := 1) (ret := (some .int)) (av := [.ref am]) _ (by decide) (Nat.le_of_ble_eq_true rfl) ?_
  intro p e s m args below meth c hx hb hr hml hts htl hown hlocks hK H locs hM hS ls hl
  have hown : s.vm.findClass RX13 = some m.cls := hown
  have hl : lv_has ls 1 [(0, .ref am)] := hl
  refine lv_aload_n hx hb dX13_tiresSet_0 rfl (lv_at hl 0 rfl) ?_
  refine lv_iconst (v := 1) hx hb dX13_tiresSet_1 (by decide) ?_
  refine lv_aload_n hx hb dX13_tiresSet_2 rfl (lv_at hl 0 rfl) ?_
  refine mz_getR hx hb htl hown hK hM 35 (Nat.le_of_ble_eq_true rfl) (Nat.le_of_ble_eq_true rfl) (htl _ mw_223) (fun _ h9 => h9) dX13_tiresSet_3 ?_
  refine lv_iconst (v := 2) hx hb dX13_tiresSet_6 (by decide) ?_
  refine mz_lald hx hb hK hM 35 (Nat.le_of_ble_eq_true rfl) rfl (nn := 13) rfl (I := 2) (by decide) (by decide) (by decide) dX13_tiresSet_7 (fun w1 _ => ?_)
  refine lv_ldc2 hx hb hown (htl _ mw_316) dX13_tiresSet_8 ?_
  refine lv_ldiv hx hb dX13_tiresSet_11 (by decide) ?_
  refine tk_anyl (fun w2 => ?_)
  have hk_1 : (1 : Int32).toInt = 1 := by decide
  refine mz_Vl (As := [.int 1, .long w2]) (rest := []) ⟨hx, hb, hml, hown, hts⟩ hK hM hS (k_X13_tells l D cy ld ad am hD _ _ _ _ 1 w2 hIF hIG hIR) ⟨callB_of 2 hts (wl_in mw_1107) rfl rfl rfl (htl _ mw_5) (htl _ mw_1104) hd_yX13_tells ⟨(Nat.le_of_ble_eq_true rfl), (Nat.le_of_ble_eq_true rfl)⟩, htl _ mw_1105, htl _ mw_1106⟩ rfl hl.1 rfl (Nat.le_of_ble_eq_true rfl) dX13_tiresSet_12 ⟨(Nat.le_of_ble_eq_true rfl), (Nat.le_of_ble_eq_true rfl)⟩ (fun w3 H locs F G R S hpo hM hS => ?_)
  obtain ⟨hIF, hIG, hIR, hfr9, hrr9, hgr9⟩ := hpo
  have hq_w3 := tk_rngL w3
  have hFF := mz_fr (K := [34, 38]) (Fa := Fa) hfr9 (fun _ _ => rfl) (by decide)
  have hRR := mz_fr (K := []) (Fa := Ra) hrr9 (fun _ _ => rfl) (by decide)
  have hGG := mz_fr (K := [39, 40]) (Fa := Ga) hgr9 (fun _ _ => rfl) (by decide)
  refine lv_iconst (v := 0) hx hb dX13_tiresSet_15 (by decide) ?_
  refine lv_bipush (v := 99) hx hb dX13_tiresSet_16 (by decide) ?_
  have hk_0 : (0 : Int32).toInt = 0 := by decide
  have hk_99 : (99 : Int32).toInt = 99 := by decide
  refine mz_Sj (As := [.long w3, .int 0, .int 99]) (rest := []) ⟨hx, hb, hml, hown, hts⟩ hK hM hS (k_X13_within l D cy ld ad am hD _ _ _ _ w3 0 99 (by omega)) ⟨callB_of 3 hts (wl_in mw_1125) rfl rfl rfl (htl _ mw_5) (htl _ mw_1123) hd_yX13_within ⟨(Nat.le_of_ble_eq_true rfl), (Nat.le_of_ble_eq_true rfl)⟩, htl _ mw_1124⟩ rfl hl.1 rfl (Nat.le_of_ble_eq_true rfl) dX13_tiresSet_18 ⟨(Nat.le_of_ble_eq_true rfl), (Nat.le_of_ble_eq_true rfl)⟩ (fun v5 H locs hpo hM hS => ?_)
  obtain ⟨hpo6, hpo10⟩ := hpo
  have hq_v5 := tk_rng v5
  exact mz_iret (v := v5) hx hb hr rfl hlocks ⟨hIF, hIG, hIR, hFF, hRR, hGG, (by omega), (by omega)⟩ hM hS dX13_tiresSet_21
end
section
theorem dX13_isBarredSet_0 : decode cX13_isBarredSet 0 = .ok (.aload_n 0, 1) := by decide +kernel
theorem dX13_isBarredSet_1 : decode cX13_isBarredSet 1 = .ok (.iconst 3, 1) := by decide +kernel
theorem dX13_isBarredSet_2 : decode cX13_isBarredSet 2 = .ok (.lconst 0, 1) := by decide +kernel
theorem dX13_isBarredSet_3 : decode cX13_isBarredSet 3 = .ok (.invokevirtual 417, 3) := by decide +kernel
theorem dX13_isBarredSet_6 : decode cX13_isBarredSet 6 = .ok (.lconst 1, 1) := by decide +kernel
theorem dX13_isBarredSet_7 : decode cX13_isBarredSet 7 = .ok (.lcmp, 1) := by decide +kernel
theorem dX13_isBarredSet_8 : decode cX13_isBarredSet 8 = .ok (.ifCond .ne 7, 3) := by decide +kernel
theorem dX13_isBarredSet_15 : decode cX13_isBarredSet 15 = .ok (.iconst 0, 1) := by decide +kernel
theorem dX13_isBarredSet_16 : decode cX13_isBarredSet 16 = .ok (.ireturn, 1) := by decide +kernel
theorem dX13_isBarredSet_11 : decode cX13_isBarredSet 11 = .ok (.iconst 1, 1) := by decide +kernel
theorem dX13_isBarredSet_12 : decode cX13_isBarredSet 12 = .ok (.goto 4, 3) := by decide +kernel
set_option maxHeartbeats 4000000 in
set_option maxRecDepth 100000 in
theorem k_X13_isBarredSet (l : Launch) (D : va_G) (cy : Nat → ClassId) (ld ad : Nat → Nat) (am : Nat) (hD : mz_D ad am) (Fa : Nat → Int32) (Ga : Nat → Int64) (Ra : Nat → Nat → Int32) (Sa : Nat → Nat → Int64) (hIF : mz_IF true Fa) (hIG : mz_IG Ga) (hIR : mz_IR [] true Ra) : Met l yX13_isBarredSet (wl yX13_isBarredSet cX13_isBarredSet 1 (some .boolean)) ({ frames := 8, cells := 0, slots := 0, locals := 490 }) (mz_p D cy ld ad am Fa Ga Ra Sa [.ref am]) (mz_i D cy ad am (fun r F G R S => mz_IF true F ∧ mz_IG G ∧ mz_IR [] true R ∧ (∀ k : Nat, k ∉ ([34, 38] : List Nat) → F k = Fa k) ∧ (∀ k : Nat, k ∉ ([] : List Nat) → R k = Ra k) ∧ (∀ k : Nat, k ∉ ([39, 40] : List Nat) → G k = Ga k) ∧ 0 ≤ r.toInt ∧ r.toInt ≤ 1 ∧ 0 ≤ r.toInt ∧ r.toInt ≤ 1)) 0 0 (mz_W ad am) := by
  refine mz_met (y := yX13_isBarredSet) (cc := cX13_isBarredSet) (maxL := 1) (ret := (some .boolean)) (av := [.ref am]) _ (by decide) (Nat.le_of_ble_eq_true rfl) ?_
  intro p e s m args below meth c hx hb hr hml hts htl hown hlocks hK H locs hM hS ls hl
  have hown : s.vm.findClass RX13 = some m.cls := hown
  have hl : lv_has ls 1 [(0, .ref am)] := hl
  refine lv_aload_n hx hb dX13_isBarredSet_0 rfl (lv_at hl 0 rfl) ?_
  refine lv_iconst (v := 3) hx hb dX13_isBarredSet_1 (by decide) ?_
  refine lv_lconst (v := 0) hx hb dX13_isBarredSet_2 (by decide) ?_
  have hk_3 : (3 : Int32).toInt = 3 := by decide
  have hk_0 : (0 : Int64).toInt = 0 := by decide
  refine mz_Vl (As := [.int 3, .long 0]) (rest := []) ⟨hx, hb, hml, hown, hts⟩ hK hM hS (k_X13_tells l D cy ld ad am hD _ _ _ _ 3 0 hIF hIG hIR) ⟨callB_of 2 hts (wl_in mw_1107) rfl rfl rfl (htl _ mw_5) (htl _ mw_1104) hd_yX13_tells ⟨(Nat.le_of_ble_eq_true rfl), (Nat.le_of_ble_eq_true rfl)⟩, htl _ mw_1105, htl _ mw_1106⟩ rfl hl.1 rfl (Nat.le_of_ble_eq_true rfl) dX13_isBarredSet_3 ⟨(Nat.le_of_ble_eq_true rfl), (Nat.le_of_ble_eq_true rfl)⟩ (fun w1 H locs F G R S hpo hM hS => ?_)
  obtain ⟨hIF, hIG, hIR, hfr9, hrr9, hgr9⟩ := hpo
  have hq_w1 := tk_rngL w1
  have hFF := mz_fr (K := [34, 38]) (Fa := Fa) hfr9 (fun _ _ => rfl) (by decide)
  have hRR := mz_fr (K := []) (Fa := Ra) hrr9 (fun _ _ => rfl) (by decide)
  have hGG := mz_fr (K := [39, 40]) (Fa := Ga) hgr9 (fun _ _ => rfl) (by decide)
  refine lv_lconst (v := 1) hx hb dX13_isBarredSet_6 (by decide) ?_
  refine W.lcmp hx hb dX13_isBarredSet_7 ?_
  refine lv_if_ne (tgt := 15) hx hb dX13_isBarredSet_8 (by decide) (fun c9 => ?_) (fun c9 => ?_)
  · have hc3 : ¬ (w1.toInt = 1) := fun h9 => c9 (((lg_cmp_eq _ _).trans (fl_eq rfl (show (1 : Int64).toInt = 1 by decide))).mpr h9)
    refine lv_iconst (v := 0) hx hb dX13_isBarredSet_15 (by decide) ?_
    have hk_0 : (0 : Int32).toInt = 0 := by decide
    exact mz_iret (v := 0) hx hb hr rfl hlocks ⟨hIF, hIG, hIR, hFF, hRR, hGG, (by omega), (by omega), (by omega), (by omega)⟩ hM hS dX13_isBarredSet_16
  · have hc3 : w1.toInt = 1 := ((lg_cmp_eq _ _).trans (fl_eq rfl (show (1 : Int64).toInt = 1 by decide))).mp c9
    refine lv_iconst (v := 1) hx hb dX13_isBarredSet_11 (by decide) ?_
    refine lv_goto (tgt := 16) hx hb dX13_isBarredSet_12 (by decide) ?_
    have hk_1 : (1 : Int32).toInt = 1 := by decide
    exact mz_iret (v := 1) hx hb hr rfl hlocks ⟨hIF, hIG, hIR, hFF, hRR, hGG, (by omega), (by omega), (by omega), (by omega)⟩ hM hS dX13_isBarredSet_16
end
section
set_option maxHeartbeats 4000000 in
set_option maxRecDepth 100000 in
theorem k_X13_ofSinger_1 (l : Launch) (D : va_G) (cy : Nat → ClassId) (ld ad : Nat → Nat) (am : Nat) (hD : mz_D ad am) (Fa : Nat → Int32) (Ga : Nat → Int64) (Ra : Nat → Nat → Int32) (Sa : Nat → Nat → Int64) (p1 : Int32) (hIF : mz_IF false Fa) (hIG : mz_IG Ga) (hIR : mz_IR [] true Ra) (hp_0 : (-1) ≤ p1.toInt) (hp_1 : p1.toInt ≤ 7) : Met l yX13_ofSinger (wl yX13_ofSinger cX13_ofSinger 3 (some .int)) ({ frames := 3, cells := 0, slots := 0, locals := 140 }) (mz_p D cy ld ad am Fa Ga Ra Sa [.ref am, .int p1, .int 1]) (mz_j D cy ad am Fa Ga Ra Sa (fun r => True)) 0 0 (mz_W ad am) := by
  refine mz_met (y := yX13_ofSinger) (cc := cX13_ofSinger) (maxL := 3) (ret := (some .int)) (av := [.ref am, .int p1, .int 1]) _ (by decide) (Nat.le_of_ble_eq_true rfl) ?_
  intro p e s m args below meth c hx hb hr hml hts htl hown hlocks hK H locs hM hS ls hl
  have hown : s.vm.findClass RX13 = some m.cls := hown
  have hl : lv_has ls 3 [(0, .ref am), (1, .int p1), (2, .int 1)] := hl
  have hr_p1 := tk_rng p1
  refine lv_aload_n hx hb dX13_ofSinger_0 rfl (lv_at hl 0 rfl) ?_
  refine mz_getR hx hb htl hown hK hM 3 (Nat.le_of_ble_eq_true rfl) (Nat.le_of_ble_eq_true rfl) (htl _ mw_188) (fun _ h9 => h9) dX13_ofSinger_1 ?_
  refine lv_bipush (v := 18) hx hb dX13_ofSinger_4 (by decide) ?_
  refine lv_iconst (v := 5) hx hb dX13_ofSinger_6 (by decide) ?_
  refine lv_iload_n hx hb dX13_ofSinger_7 rfl (lv_at hl 1 rfl) ?_
  refine lv_imul hx hb dX13_ofSinger_8 ?_
  refine tk_mul (show (5 : Int32).toInt = 5 by decide) rfl (by omega) (by omega) (fun v1 h_v1 => ?_)
  refine lv_iadd hx hb dX13_ofSinger_9 ?_
  refine tk_add (show (18 : Int32).toInt = 18 by decide) rfl (by omega) (by omega) (fun v2 h_v2 => ?_)
  refine lv_iload_n hx hb dX13_ofSinger_10 rfl (lv_at hl 2 rfl) ?_
  refine lv_iadd hx hb dX13_ofSinger_11 ?_
  refine tk_add rfl (show (1 : Int32).toInt = 1 by decide) (by omega) (by omega) (fun v3 h_v3 => ?_)
  refine mz_iald hx hb hK hM 3 (Nat.le_of_ble_eq_true rfl) rfl (nn := 5560) rfl rfl (by omega) (by omega) dX13_ofSinger_12 (fun v4 e_v4 => ?_)
  have hq_v4 := tk_rng v4
  exact mz_jret (v := v4) hx hb hr rfl hlocks trivial hM hS dX13_ofSinger_13
end
section
theorem hd_yX13_setSung : yX13_setSung.cls ≠ "java/lang/invoke/MethodHandle" ∧ yX13_setSung.cls ≠ "java/lang/invoke/VarHandle" ∧ (parseMethodDescriptor yX13_setSung.desc).map (fun d => d.parameters.length) = some 6 := by decide +kernel
theorem dX13_wakesOf_0 : decode cX13_wakesOf 0 = .ok (.aload_n 0, 1) := by decide +kernel
theorem dX13_wakesOf_1 : decode cX13_wakesOf 1 = .ok (.iconst (-1), 1) := by decide +kernel
theorem dX13_wakesOf_2 : decode cX13_wakesOf 2 = .ok (.aload_n 0, 1) := by decide +kernel
theorem dX13_wakesOf_3 : decode cX13_wakesOf 3 = .ok (.iload_n 1, 1) := by decide +kernel
theorem dX13_wakesOf_4 : decode cX13_wakesOf 4 = .ok (.iconst 1, 1) := by decide +kernel
theorem dX13_wakesOf_5 : decode cX13_wakesOf 5 = .ok (.invokevirtual 207, 3) := by decide +kernel
theorem dX13_wakesOf_8 : decode cX13_wakesOf 8 = .ok (.iconst (-1), 1) := by decide +kernel
theorem dX13_wakesOf_9 : decode cX13_wakesOf 9 = .ok (.iconst (-1), 1) := by decide +kernel
theorem dX13_wakesOf_10 : decode cX13_wakesOf 10 = .ok (.aload_n 0, 1) := by decide +kernel
theorem dX13_wakesOf_11 : decode cX13_wakesOf 11 = .ok (.iload_n 1, 1) := by decide +kernel
theorem dX13_wakesOf_12 : decode cX13_wakesOf 12 = .ok (.iconst 0, 1) := by decide +kernel
theorem dX13_wakesOf_13 : decode cX13_wakesOf 13 = .ok (.invokevirtual 207, 3) := by decide +kernel
theorem dX13_wakesOf_16 : decode cX13_wakesOf 16 = .ok (.iconst (-1), 1) := by decide +kernel
theorem dX13_wakesOf_17 : decode cX13_wakesOf 17 = .ok (.invokevirtual 425, 3) := by decide +kernel
theorem dX13_wakesOf_20 : decode cX13_wakesOf 20 = .ok (.aload_n 0, 1) := by decide +kernel
theorem dX13_wakesOf_21 : decode cX13_wakesOf 21 = .ok (.iconst 2, 1) := by decide +kernel
theorem dX13_wakesOf_22 : decode cX13_wakesOf 22 = .ok (.ldc2_w 429, 3) := by decide +kernel
theorem dX13_wakesOf_25 : decode cX13_wakesOf 25 = .ok (.invokevirtual 417, 3) := by decide +kernel
theorem dX13_wakesOf_28 : decode cX13_wakesOf 28 = .ok (.iconst 0, 1) := by decide +kernel
theorem dX13_wakesOf_29 : decode cX13_wakesOf 29 = .ok (.sipush 999, 3) := by decide +kernel
theorem dX13_wakesOf_32 : decode cX13_wakesOf 32 = .ok (.invokestatic 421, 3) := by decide +kernel
theorem dX13_wakesOf_35 : decode cX13_wakesOf 35 = .ok (.ireturn, 1) := by decide +kernel
set_option maxHeartbeats 4000000 in
set_option maxRecDepth 100000 in
theorem k_X13_wakesOf (l : Launch) (D : va_G) (cy : Nat → ClassId) (ld ad : Nat → Nat) (am : Nat) (hD : mz_D ad am) (Fa : Nat → Int32) (Ga : Nat → Int64) (Ra : Nat → Nat → Int32) (Sa : Nat → Nat → Int64) (p1 : Int32) (hIF : mz_IF true Fa) (hIG : mz_IG Ga) (hIR : mz_IR [] true Ra) (hp_0 : 0 ≤ p1.toInt) (hp_1 : p1.toInt ≤ 7) : Met l yX13_wakesOf (wl yX13_wakesOf cX13_wakesOf 2 (some .int)) ({ frames := 8, cells := 0, slots := 0, locals := 490 }) (mz_p D cy ld ad am Fa Ga Ra Sa [.ref am, .int p1]) (mz_i D cy ad am (fun r F G R S => mz_IF true F ∧ mz_IG G ∧ mz_IR [] true R ∧ (∀ k : Nat, k ∉ ([34, 38] : List Nat) → F k = Fa k) ∧ (∀ k : Nat, k ∉ ([] : List Nat) → R k = Ra k) ∧ (∀ k : Nat, k ∉ ([39, 40] : List Nat) → G k = Ga k) ∧ 0 ≤ r.toInt ∧ r.toInt ≤ 999)) 0 0 (mz_W ad am) := by
  refine mz_met (y := yX13_wakesOf) (cc := cX13_wakesOf) (maxL := 2) (ret := (some .int)) (av := [.ref am, .int p1]) _ (by decide) (Nat.le_of_ble_eq_true rfl) ?_
  intro p e s m args below meth c hx hb hr hml hts htl hown hlocks hK H locs hM hS ls hl
  have hown : s.vm.findClass RX13 = some m.cls := hown
  have hl : lv_has ls 2 [(0, .ref am), (1, .int p1)] := hl
  have hr_p1 := tk_rng p1
  refine lv_aload_n hx hb dX13_wakesOf_0 rfl (lv_at hl 0 rfl) ?_
  refine lv_iconst (v := (-1)) hx hb dX13_wakesOf_1 (by decide) ?_
  refine lv_aload_n hx hb dX13_wakesOf_2 rfl (lv_at hl 0 rfl) ?_
  refine lv_iload_n hx hb dX13_wakesOf_3 rfl (lv_at hl 1 rfl) ?_
  refine lv_iconst (v := 1) hx hb dX13_wakesOf_4 (by decide) ?_
  have hk_1 : (1 : Int32).toInt = 1 := by decide
  refine mz_Vj (As := [.int p1, .int 1]) (rest := [.int (-1), .ref am]) ⟨hx, hb, hml, hown, hts⟩ hK hM hS (k_X13_ofSinger_1 l D cy ld ad am hD _ _ _ _ p1 (hIF.weak) hIG hIR (by omega) (by omega)) ⟨callB_of 2 hts (wl_in mw_324) rfl rfl rfl (htl _ mw_5) (htl _ mw_321) hd_yX13_ofSinger ⟨(Nat.le_of_ble_eq_true rfl), (Nat.le_of_ble_eq_true rfl)⟩, htl _ mw_322, htl _ mw_323⟩ rfl hl.1 rfl (Nat.le_of_ble_eq_true rfl) dX13_wakesOf_5 ⟨(Nat.le_of_ble_eq_true rfl), (Nat.le_of_ble_eq_true rfl)⟩ (fun v1 H locs hpo hM hS => ?_)
  have hq_v1 := tk_rng v1
  refine lv_iconst (v := (-1)) hx hb dX13_wakesOf_8 (by decide) ?_
  refine lv_iconst (v := (-1)) hx hb dX13_wakesOf_9 (by decide) ?_
  refine lv_aload_n hx hb dX13_wakesOf_10 rfl (lv_at hl 0 rfl) ?_
  refine lv_iload_n hx hb dX13_wakesOf_11 rfl (lv_at hl 1 rfl) ?_
  refine lv_iconst (v := 0) hx hb dX13_wakesOf_12 (by decide) ?_
  have hk_0 : (0 : Int32).toInt = 0 := by decide
  refine mz_Vj (As := [.int p1, .int 0]) (rest := [.int (-1), .int (-1), .int v1, .int (-1), .ref am]) ⟨hx, hb, hml, hown, hts⟩ hK hM hS (k_X13_ofSinger_0 l D cy ld ad am hD _ _ _ _ p1 (hIF.weak) hIG hIR (by omega) (by omega)) ⟨callB_of 2 hts (wl_in mw_324) rfl rfl rfl (htl _ mw_5) (htl _ mw_321) hd_yX13_ofSinger ⟨(Nat.le_of_ble_eq_true rfl), (Nat.le_of_ble_eq_true rfl)⟩, htl _ mw_322, htl _ mw_323⟩ rfl hl.1 rfl (Nat.le_of_ble_eq_true rfl) dX13_wakesOf_13 ⟨(Nat.le_of_ble_eq_true rfl), (Nat.le_of_ble_eq_true rfl)⟩ (fun v3 H locs hpo hM hS => ?_)
  have hq_v3 := tk_rng v3
  refine lv_iconst (v := (-1)) hx hb dX13_wakesOf_16 (by decide) ?_
  have hk_m1 : ((-1) : Int32).toInt = (-1) := by decide
  have hk_m1 : ((-1) : Int32).toInt = (-1) := by decide
  have hk_m1 : ((-1) : Int32).toInt = (-1) := by decide
  have hk_m1 : ((-1) : Int32).toInt = (-1) := by decide
  refine mz_Vv (As := [.int (-1), .int v1, .int (-1), .int (-1), .int v3, .int (-1)]) (rest := []) ⟨hx, hb, hml, hown, hts⟩ hK hM hS (k_X13_setSung l D cy ld ad am hD _ _ _ _ (-1) v1 (-1) (-1) v3 (-1) hIF hIG hIR (by omega) (by omega)) ⟨callB_of 6 hts (wl_in mw_1099) rfl rfl rfl (htl _ mw_5) (htl _ mw_1096) hd_yX13_setSung ⟨(Nat.le_of_ble_eq_true rfl), (Nat.le_of_ble_eq_true rfl)⟩, htl _ mw_1097, htl _ mw_1098⟩ rfl hl.1 rfl (Nat.le_of_ble_eq_true rfl) dX13_wakesOf_17 ⟨(Nat.le_of_ble_eq_true rfl), (Nat.le_of_ble_eq_true rfl)⟩ (fun H locs F G R S hpo hM hS => ?_)
  obtain ⟨hIF, hIG, hIR, hfr9, hrr9, hgr9⟩ := hpo
  have hFF := mz_fr (K := [34, 38]) (Fa := Fa) hfr9 (fun _ _ => rfl) (by decide)
  have hRR := mz_fr (K := []) (Fa := Ra) hrr9 (fun _ _ => rfl) (by decide)
  have hGG := mz_fr (K := [39, 40]) (Fa := Ga) hgr9 (fun _ _ => rfl) (by decide)
  refine lv_aload_n hx hb dX13_wakesOf_20 rfl (lv_at hl 0 rfl) ?_
  refine lv_iconst (v := 2) hx hb dX13_wakesOf_21 (by decide) ?_
  refine lv_ldc2 hx hb hown (htl _ mw_1154) dX13_wakesOf_22 ?_
  have hk_2 : (2 : Int32).toInt = 2 := by decide
  have hk_100 : (100 : Int64).toInt = 100 := by decide
  refine mz_Vl (As := [.int 2, .long 100]) (rest := []) ⟨hx, hb, hml, hown, hts⟩ hK hM hS (k_X13_tells l D cy ld ad am hD _ _ _ _ 2 100 hIF hIG hIR) ⟨callB_of 2 hts (wl_in mw_1107) rfl rfl rfl (htl _ mw_5) (htl _ mw_1104) hd_yX13_tells ⟨(Nat.le_of_ble_eq_true rfl), (Nat.le_of_ble_eq_true rfl)⟩, htl _ mw_1105, htl _ mw_1106⟩ rfl hl.1 rfl (Nat.le_of_ble_eq_true rfl) dX13_wakesOf_25 ⟨(Nat.le_of_ble_eq_true rfl), (Nat.le_of_ble_eq_true rfl)⟩ (fun w6 H locs F G R S hpo hM hS => ?_)
  obtain ⟨hIF, hIG, hIR, hfr9, hrr9, hgr9⟩ := hpo
  have hq_w6 := tk_rngL w6
  have hFF := mz_fr (K := [34, 38]) (Fa := Fa) hfr9 hFF (by decide)
  have hRR := mz_fr (K := []) (Fa := Ra) hrr9 hRR (by decide)
  have hGG := mz_fr (K := [39, 40]) (Fa := Ga) hgr9 hGG (by decide)
  refine lv_iconst (v := 0) hx hb dX13_wakesOf_28 (by decide) ?_
  refine lv_sipush (v := 999) hx hb dX13_wakesOf_29 (by decide) ?_
  have hk_0 : (0 : Int32).toInt = 0 := by decide
  have hk_999 : (999 : Int32).toInt = 999 := by decide
  refine mz_Sj (As := [.long w6, .int 0, .int 999]) (rest := []) ⟨hx, hb, hml, hown, hts⟩ hK hM hS (k_X13_within l D cy ld ad am hD _ _ _ _ w6 0 999 (by omega)) ⟨callB_of 3 hts (wl_in mw_1125) rfl rfl rfl (htl _ mw_5) (htl _ mw_1123) hd_yX13_within ⟨(Nat.le_of_ble_eq_true rfl), (Nat.le_of_ble_eq_true rfl)⟩, htl _ mw_1124⟩ rfl hl.1 rfl (Nat.le_of_ble_eq_true rfl) dX13_wakesOf_32 ⟨(Nat.le_of_ble_eq_true rfl), (Nat.le_of_ble_eq_true rfl)⟩ (fun v11 H locs hpo hM hS => ?_)
  obtain ⟨hpo12, hpo13⟩ := hpo
  have hq_v11 := tk_rng v11
  exact mz_iret (v := v11) hx hb hr rfl hlocks ⟨hIF, hIG, hIR, hFF, hRR, hGG, (by omega), (by omega)⟩ hM hS dX13_wakesOf_35
end
section
set_option maxHeartbeats 4000000 in
set_option maxRecDepth 100000 in
theorem k_X13_inDuel_1 (l : Launch) (D : va_G) (cy : Nat → ClassId) (ld ad : Nat → Nat) (am : Nat) (hD : mz_D ad am) (Fa : Nat → Int32) (Ga : Nat → Int64) (Ra : Nat → Nat → Int32) (Sa : Nat → Nat → Int64) (g0 : Int32) (hg_0 : Ra 3 13 = g0) : Met l yX13_inDuel (wl yX13_inDuel cX13_inDuel 2 (some .int)) ({ frames := 3, cells := 0, slots := 0, locals := 140 }) (mz_p D cy ld ad am Fa Ga Ra Sa [.ref am, .int 1]) (mz_j D cy ad am Fa Ga Ra Sa (fun r => (-1) * g0.toInt + r.toInt = 0)) 0 0 (mz_W ad am) := by
  refine mz_met (y := yX13_inDuel) (cc := cX13_inDuel) (maxL := 2) (ret := (some .int)) (av := [.ref am, .int 1]) _ (by decide) (Nat.le_of_ble_eq_true rfl) ?_
  intro p e s m args below meth c hx hb hr hml hts htl hown hlocks hK H locs hM hS ls hl
  have hown : s.vm.findClass RX13 = some m.cls := hown
  have hl : lv_has ls 2 [(0, .ref am), (1, .int 1)] := hl
  have hq_g0 := tk_rng g0
  refine lv_aload_n hx hb dX13_inDuel_0 rfl (lv_at hl 0 rfl) ?_
  refine mz_getR hx hb htl hown hK hM 3 (Nat.le_of_ble_eq_true rfl) (Nat.le_of_ble_eq_true rfl) (htl _ mw_188) (fun _ h9 => h9) dX13_inDuel_1 ?_
  refine lv_bipush (v := 12) hx hb dX13_inDuel_4 (by decide) ?_
  refine lv_iload_n hx hb dX13_inDuel_6 rfl (lv_at hl 1 rfl) ?_
  refine lv_iadd hx hb dX13_inDuel_7 ?_
  refine fx_ti (v := 13) (by decide) ?_
  refine mz_iald hx hb hK hM 3 (Nat.le_of_ble_eq_true rfl) rfl (nn := 5560) rfl (I := 13) (by decide) (by decide) (by decide) dX13_inDuel_8 (fun v9 e9 => ?_)
  refine fx_ti (v := g0) (e9.symm.trans (show Ra 3 (13 : Int32).toNatClampNeg = _ from hg_0)) ?_
  exact mz_jret (v := g0) hx hb hr rfl hlocks (by omega) hM hS dX13_inDuel_9
end
section
set_option maxHeartbeats 4000000 in
set_option maxRecDepth 100000 in
theorem k_X13_inDuel_4 (l : Launch) (D : va_G) (cy : Nat → ClassId) (ld ad : Nat → Nat) (am : Nat) (hD : mz_D ad am) (Fa : Nat → Int32) (Ga : Nat → Int64) (Ra : Nat → Nat → Int32) (Sa : Nat → Nat → Int64) (g0 : Int32) (hg_0 : Ra 3 16 = g0) : Met l yX13_inDuel (wl yX13_inDuel cX13_inDuel 2 (some .int)) ({ frames := 3, cells := 0, slots := 0, locals := 140 }) (mz_p D cy ld ad am Fa Ga Ra Sa [.ref am, .int 4]) (mz_j D cy ad am Fa Ga Ra Sa (fun r => (-1) * g0.toInt + r.toInt = 0)) 0 0 (mz_W ad am) := by
  refine mz_met (y := yX13_inDuel) (cc := cX13_inDuel) (maxL := 2) (ret := (some .int)) (av := [.ref am, .int 4]) _ (by decide) (Nat.le_of_ble_eq_true rfl) ?_
  intro p e s m args below meth c hx hb hr hml hts htl hown hlocks hK H locs hM hS ls hl
  have hown : s.vm.findClass RX13 = some m.cls := hown
  have hl : lv_has ls 2 [(0, .ref am), (1, .int 4)] := hl
  have hq_g0 := tk_rng g0
  refine lv_aload_n hx hb dX13_inDuel_0 rfl (lv_at hl 0 rfl) ?_
  refine mz_getR hx hb htl hown hK hM 3 (Nat.le_of_ble_eq_true rfl) (Nat.le_of_ble_eq_true rfl) (htl _ mw_188) (fun _ h9 => h9) dX13_inDuel_1 ?_
  refine lv_bipush (v := 12) hx hb dX13_inDuel_4 (by decide) ?_
  refine lv_iload_n hx hb dX13_inDuel_6 rfl (lv_at hl 1 rfl) ?_
  refine lv_iadd hx hb dX13_inDuel_7 ?_
  refine fx_ti (v := 16) (by decide) ?_
  refine mz_iald hx hb hK hM 3 (Nat.le_of_ble_eq_true rfl) rfl (nn := 5560) rfl (I := 16) (by decide) (by decide) (by decide) dX13_inDuel_8 (fun v9 e9 => ?_)
  refine fx_ti (v := g0) (e9.symm.trans (show Ra 3 (16 : Int32).toNatClampNeg = _ from hg_0)) ?_
  exact mz_jret (v := g0) hx hb hr rfl hlocks (by omega) hM hS dX13_inDuel_9
end
