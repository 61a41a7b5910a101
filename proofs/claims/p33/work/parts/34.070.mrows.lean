theorem hd_yX13_term : yX13_term.cls ≠ "java/lang/invoke/MethodHandle" ∧ yX13_term.cls ≠ "java/lang/invoke/VarHandle" ∧ (parseMethodDescriptor yX13_term.desc).map (fun d => d.parameters.length) = some 1 := by decide +kernel
theorem dX13_setSung_0 : decode cX13_setSung 0 = .ok (.aload_n 0, 1) := by decide +kernel
theorem dX13_setSung_1 : decode cX13_setSung 1 = .ok (.getfield 101, 3) := by decide +kernel
theorem dX13_setSung_4 : decode cX13_setSung 4 = .ok (.iconst 1, 1) := by decide +kernel
theorem dX13_setSung_5 : decode cX13_setSung 5 = .ok (.iload_n 2, 1) := by decide +kernel
theorem dX13_setSung_6 : decode cX13_setSung 6 = .ok (.i2l, 1) := by decide +kernel
theorem dX13_setSung_7 : decode cX13_setSung 7 = .ok (.lastore, 1) := by decide +kernel
theorem dX13_setSung_8 : decode cX13_setSung 8 = .ok (.aload_n 0, 1) := by decide +kernel
theorem dX13_setSung_9 : decode cX13_setSung 9 = .ok (.getfield 101, 3) := by decide +kernel
theorem dX13_setSung_12 : decode cX13_setSung 12 = .ok (.iconst 2, 1) := by decide +kernel
theorem dX13_setSung_13 : decode cX13_setSung 13 = .ok (.iload_n 1, 1) := by decide +kernel
theorem dX13_setSung_14 : decode cX13_setSung 14 = .ok (.iconst (-1), 1) := by decide +kernel
theorem dX13_setSung_36 : decode cX13_setSung 36 = .ok (.lastore, 1) := by decide +kernel
theorem dX13_setSung_37 : decode cX13_setSung 37 = .ok (.aload_n 0, 1) := by decide +kernel
theorem dX13_setSung_38 : decode cX13_setSung 38 = .ok (.getfield 101, 3) := by decide +kernel
theorem dX13_setSung_41 : decode cX13_setSung 41 = .ok (.iconst 3, 1) := by decide +kernel
theorem dX13_setSung_42 : decode cX13_setSung 42 = .ok (.iload_n 1, 1) := by decide +kernel
theorem dX13_setSung_43 : decode cX13_setSung 43 = .ok (.iconst (-1), 1) := by decide +kernel
theorem dX13_setSung_67 : decode cX13_setSung 67 = .ok (.lastore, 1) := by decide +kernel
theorem dX13_setSung_68 : decode cX13_setSung 68 = .ok (.aload_n 0, 1) := by decide +kernel
theorem dX13_setSung_69 : decode cX13_setSung 69 = .ok (.getfield 101, 3) := by decide +kernel
theorem dX13_setSung_72 : decode cX13_setSung 72 = .ok (.iconst 4, 1) := by decide +kernel
theorem dX13_setSung_73 : decode cX13_setSung 73 = .ok (.iload_n 3, 1) := by decide +kernel
theorem dX13_setSung_74 : decode cX13_setSung 74 = .ok (.i2l, 1) := by decide +kernel
theorem dX13_setSung_75 : decode cX13_setSung 75 = .ok (.lastore, 1) := by decide +kernel
theorem dX13_setSung_76 : decode cX13_setSung 76 = .ok (.aload_n 0, 1) := by decide +kernel
theorem dX13_setSung_77 : decode cX13_setSung 77 = .ok (.getfield 101, 3) := by decide +kernel
theorem dX13_setSung_80 : decode cX13_setSung 80 = .ok (.iconst 5, 1) := by decide +kernel
theorem dX13_setSung_81 : decode cX13_setSung 81 = .ok (.iload 4, 2) := by decide +kernel
theorem dX13_setSung_83 : decode cX13_setSung 83 = .ok (.i2l, 1) := by decide +kernel
theorem dX13_setSung_84 : decode cX13_setSung 84 = .ok (.lastore, 1) := by decide +kernel
theorem dX13_setSung_85 : decode cX13_setSung 85 = .ok (.aload_n 0, 1) := by decide +kernel
theorem dX13_setSung_86 : decode cX13_setSung 86 = .ok (.getfield 101, 3) := by decide +kernel
theorem dX13_setSung_89 : decode cX13_setSung 89 = .ok (.bipush 6, 2) := by decide +kernel
theorem dX13_setSung_91 : decode cX13_setSung 91 = .ok (.iload 5, 2) := by decide +kernel
theorem dX13_setSung_93 : decode cX13_setSung 93 = .ok (.i2l, 1) := by decide +kernel
theorem dX13_setSung_94 : decode cX13_setSung 94 = .ok (.lastore, 1) := by decide +kernel
theorem dX13_setSung_95 : decode cX13_setSung 95 = .ok (.aload_n 0, 1) := by decide +kernel
theorem dX13_setSung_96 : decode cX13_setSung 96 = .ok (.getfield 101, 3) := by decide +kernel
theorem dX13_setSung_99 : decode cX13_setSung 99 = .ok (.bipush 7, 2) := by decide +kernel
theorem dX13_setSung_101 : decode cX13_setSung 101 = .ok (.iload 6, 2) := by decide +kernel
theorem dX13_setSung_103 : decode cX13_setSung 103 = .ok (.i2l, 1) := by decide +kernel
theorem dX13_setSung_104 : decode cX13_setSung 104 = .ok (.lastore, 1) := by decide +kernel
theorem dX13_setSung_105 : decode cX13_setSung 105 = .ok (.aload_n 0, 1) := by decide +kernel
theorem dX13_setSung_106 : decode cX13_setSung 106 = .ok (.getfield 101, 3) := by decide +kernel
theorem dX13_setSung_109 : decode cX13_setSung 109 = .ok (.bipush 8, 2) := by decide +kernel
theorem dX13_setSung_111 : decode cX13_setSung 111 = .ok (.aload_n 0, 1) := by decide +kernel
theorem dX13_setSung_112 : decode cX13_setSung 112 = .ok (.iconst 0, 1) := by decide +kernel
theorem dX13_setSung_113 : decode cX13_setSung 113 = .ok (.invokevirtual 412, 3) := by decide +kernel
theorem dX13_setSung_116 : decode cX13_setSung 116 = .ok (.i2l, 1) := by decide +kernel
theorem dX13_setSung_117 : decode cX13_setSung 117 = .ok (.lastore, 1) := by decide +kernel
theorem dX13_setSung_118 : decode cX13_setSung 118 = .ok (.aload_n 0, 1) := by decide +kernel
theorem dX13_setSung_119 : decode cX13_setSung 119 = .ok (.getfield 101, 3) := by decide +kernel
theorem dX13_setSung_122 : decode cX13_setSung 122 = .ok (.bipush 9, 2) := by decide +kernel
theorem dX13_setSung_124 : decode cX13_setSung 124 = .ok (.aload_n 0, 1) := by decide +kernel
theorem dX13_setSung_125 : decode cX13_setSung 125 = .ok (.iconst 3, 1) := by decide +kernel
theorem dX13_setSung_126 : decode cX13_setSung 126 = .ok (.invokevirtual 412, 3) := by decide +kernel
theorem dX13_setSung_129 : decode cX13_setSung 129 = .ok (.i2l, 1) := by decide +kernel
theorem dX13_setSung_130 : decode cX13_setSung 130 = .ok (.lastore, 1) := by decide +kernel
theorem dX13_setSung_131 : decode cX13_setSung 131 = .ok (.return_, 1) := by decide +kernel
theorem dX13_setSung_44 : decode cX13_setSung 44 = .ok (.if_icmp .ne 9, 3) := by decide +kernel
theorem dX13_setSung_53 : decode cX13_setSung 53 = .ok (.aload_n 0, 1) := by decide +kernel
theorem dX13_setSung_54 : decode cX13_setSung 54 = .ok (.getfield 13, 3) := by decide +kernel
theorem dX13_setSung_57 : decode cX13_setSung 57 = .ok (.bipush 58, 2) := by decide +kernel
theorem dX13_setSung_59 : decode cX13_setSung 59 = .ok (.iconst 2, 1) := by decide +kernel
theorem dX13_setSung_60 : decode cX13_setSung 60 = .ok (.iload_n 1, 1) := by decide +kernel
theorem dX13_setSung_61 : decode cX13_setSung 61 = .ok (.imul, 1) := by decide +kernel
theorem dX13_setSung_62 : decode cX13_setSung 62 = .ok (.iadd, 1) := by decide +kernel
theorem dX13_setSung_63 : decode cX13_setSung 63 = .ok (.iconst 1, 1) := by decide +kernel
theorem dX13_setSung_64 : decode cX13_setSung 64 = .ok (.iadd, 1) := by decide +kernel
theorem dX13_setSung_65 : decode cX13_setSung 65 = .ok (.iaload, 1) := by decide +kernel
theorem dX13_setSung_66 : decode cX13_setSung 66 = .ok (.i2l, 1) := by decide +kernel
theorem dX13_setSung_47 : decode cX13_setSung 47 = .ok (.ldc2_w 263, 3) := by decide +kernel
theorem dX13_setSung_50 : decode cX13_setSung 50 = .ok (.goto 17, 3) := by decide +kernel
theorem dX13_setSung_15 : decode cX13_setSung 15 = .ok (.if_icmp .ne 9, 3) := by decide +kernel
theorem dX13_setSung_24 : decode cX13_setSung 24 = .ok (.aload_n 0, 1) := by decide +kernel
theorem dX13_setSung_25 : decode cX13_setSung 25 = .ok (.getfield 13, 3) := by decide +kernel
theorem dX13_setSung_28 : decode cX13_setSung 28 = .ok (.bipush 58, 2) := by decide +kernel
theorem dX13_setSung_30 : decode cX13_setSung 30 = .ok (.iconst 2, 1) := by decide +kernel
theorem dX13_setSung_31 : decode cX13_setSung 31 = .ok (.iload_n 1, 1) := by decide +kernel
theorem dX13_setSung_32 : decode cX13_setSung 32 = .ok (.imul, 1) := by decide +kernel
theorem dX13_setSung_33 : decode cX13_setSung 33 = .ok (.iadd, 1) := by decide +kernel
theorem dX13_setSung_34 : decode cX13_setSung 34 = .ok (.iaload, 1) := by decide +kernel
theorem dX13_setSung_35 : decode cX13_setSung 35 = .ok (.i2l, 1) := by decide +kernel
theorem dX13_setSung_18 : decode cX13_setSung 18 = .ok (.ldc2_w 263, 3) := by decide +kernel
theorem dX13_setSung_21 : decode cX13_setSung 21 = .ok (.goto 15, 3) := by decide +kernel
set_option maxHeartbeats 4000000 in
set_option maxRecDepth 100000 in
theorem k_X13_setSung (l : Launch) (D : va_G) (cy : Nat → ClassId) (ld ad : Nat → Nat) (am : Nat) (hD : mz_D ad am) (Fa : Nat → Int32) (Ga : Nat → Int64) (Ra : Nat → Nat → Int32) (Sa : Nat → Nat → Int64) (p1 : Int32) (p2 : Int32) (p3 : Int32) (p4 : Int32) (p5 : Int32) (p6 : Int32) (hIF : mz_IF true Fa) (hIG : mz_IG Ga) (hIR : mz_IR [] true Ra) (hp_0 : (-1) ≤ p1.toInt) (hp_1 : p1.toInt ≤ 9) : Met l yX13_setSung (wl yX13_setSung cX13_setSung 7 none) ({ frames := 4, cells := 0, slots := 0, locals := 210 }) (mz_p D cy ld ad am Fa Ga Ra Sa [.ref am, .int p1, .int p2, .int p3, .int p4, .int p5, .int p6]) (mz_w D cy ad am (fun F G R S => mz_IF true F ∧ mz_IG G ∧ mz_IR [] true R ∧ (∀ k : Nat, k ∉ ([] : List Nat) → F k = Fa k) ∧ (∀ k : Nat, k ∉ ([] : List Nat) → R k = Ra k) ∧ (∀ k : Nat, k ∉ ([] : List Nat) → G k = Ga k))) 0 0 (mz_W ad am) := by
  refine mz_met (y := yX13_setSung) (cc := cX13_setSung) (maxL := 7) (ret := none) (av := [.ref am, .int p1, .int p2, .int p3, .int p4, .int p5, .int p6]) _ (by decide) (Nat.le_of_ble_eq_true rfl) ?_
  intro p e s m args below meth c hx hb hr hml hts htl hown hlocks hK H locs hM hS ls hl
  have hown : s.vm.findClass RX13 = some m.cls := hown
  have hl : lv_has ls 7 [(0, .ref am), (1, .int p1), (2, .int p2), (3, .int p3), (4, .int p4), (5, .int p5), (6, .int p6)] := hl
  have hr_p1 := tk_rng p1
  have hr_p2 := tk_rng p2
  have hr_p3 := tk_rng p3
  have hr_p4 := tk_rng p4
  have hr_p5 := tk_rng p5
  have hr_p6 := tk_rng p6
  refine lv_aload_n hx hb dX13_setSung_0 rfl (lv_at hl 0 rfl) ?_
  refine mz_getR hx hb htl hown hK hM 35 (Nat.le_of_ble_eq_true rfl) (Nat.le_of_ble_eq_true rfl) (htl _ mw_223) (fun _ h9 => h9) dX13_setSung_1 ?_
  refine lv_iconst (v := 1) hx hb dX13_setSung_4 (by decide) ?_
  refine lv_iload_n hx hb dX13_setSung_5 rfl (lv_at hl 2 rfl) ?_
  obtain ⟨w1, e_w1, h_w1⟩ : ∃ z : Int64, p2.toInt64 = z ∧ z.toInt = p2.toInt := ⟨_, rfl, fl_w _⟩
  refine lv_i2l (v := w1) hx hb dX13_setSung_6 e_w1 ?_
  have hk_1 : (1 : Int32).toInt = 1 := by decide
  refine mz_last (x := w1) hx hb hK hD hM hS 35 (Nat.le_of_ble_eq_true rfl) rfl (nn := 13) rfl (I := 1) (by decide) (by decide) (by decide) dX13_setSung_7 (fun H locs S hM hS _ _ => ?_)
  refine lv_aload_n hx hb dX13_setSung_8 rfl (lv_at hl 0 rfl) ?_
  refine mz_getR hx hb htl hown hK hM 35 (Nat.le_of_ble_eq_true rfl) (Nat.le_of_ble_eq_true rfl) (htl _ mw_223) (fun _ h9 => h9) dX13_setSung_9 ?_
  refine lv_iconst (v := 2) hx hb dX13_setSung_12 (by decide) ?_
  refine lv_iload_n hx hb dX13_setSung_13 rfl (lv_at hl 1 rfl) ?_
  refine lv_iconst (v := (-1)) hx hb dX13_setSung_14 (by decide) ?_
  have hj13 : ∀ (v12 : Int64), ∀ ls : Array Slot, lv_has ls 7 [(0, .ref am), (1, .int p1), (3, .int p3), (4, .int p4), (5, .int p5), (6, .int p6)] → W p l e ({ frames := 4, cells := 0, slots := 0, locals := 210 }) s m args below meth c H locs 0 0 (MQ below (mz_w D cy ad am (fun F G R S => mz_IF true F ∧ mz_IG G ∧ mz_IR [] true R ∧ (∀ k : Nat, k ∉ ([] : List Nat) → F k = Fa k) ∧ (∀ k : Nat, k ∉ ([] : List Nat) → R k = Ra k) ∧ (∀ k : Nat, k ∉ ([] : List Nat) → G k = Ga k))) args s 0 0 (mz_W ad am)) (F0 m 36 ls [.long v12, .int 2, .ref (ad 35)]) := by
    intro v12  ls hl
    have hk_2 : (2 : Int32).toInt = 2 := by decide
    refine mz_last (x := v12) hx hb hK hD hM hS 35 (Nat.le_of_ble_eq_true rfl) rfl (nn := 13) rfl (I := 2) (by decide) (by decide) (by decide) dX13_setSung_36 (fun H locs S hM hS _ _ => ?_)
    refine lv_aload_n hx hb dX13_setSung_37 rfl (lv_at hl 0 rfl) ?_
    refine mz_getR hx hb htl hown hK hM 35 (Nat.le_of_ble_eq_true rfl) (Nat.le_of_ble_eq_true rfl) (htl _ mw_223) (fun _ h9 => h9) dX13_setSung_38 ?_
    refine lv_iconst (v := 3) hx hb dX13_setSung_41 (by decide) ?_
    refine lv_iload_n hx hb dX13_setSung_42 rfl (lv_at hl 1 rfl) ?_
    refine lv_iconst (v := (-1)) hx hb dX13_setSung_43 (by decide) ?_
    have hj23 : ∀ (v22 : Int64), ∀ ls : Array Slot, lv_has ls 7 [(0, .ref am), (3, .int p3), (4, .int p4), (5, .int p5), (6, .int p6)] → W p l e ({ frames := 4, cells := 0, slots := 0, locals := 210 }) s m args below meth c H locs 0 0 (MQ below (mz_w D cy ad am (fun F G R S => mz_IF true F ∧ mz_IG G ∧ mz_IR [] true R ∧ (∀ k : Nat, k ∉ ([] : List Nat) → F k = Fa k) ∧ (∀ k : Nat, k ∉ ([] : List Nat) → R k = Ra k) ∧ (∀ k : Nat, k ∉ ([] : List Nat) → G k = Ga k))) args s 0 0 (mz_W ad am)) (F0 m 67 ls [.long v22, .int 3, .ref (ad 35)]) := by
      intro v22  ls hl
      have hk_3 : (3 : Int32).toInt = 3 := by decide
      refine mz_last (x := v22) hx hb hK hD hM hS 35 (Nat.le_of_ble_eq_true rfl) rfl (nn := 13) rfl (I := 3) (by decide) (by decide) (by decide) dX13_setSung_67 (fun H locs S hM hS _ _ => ?_)
      refine lv_aload_n hx hb dX13_setSung_68 rfl (lv_at hl 0 rfl) ?_
      refine mz_getR hx hb htl hown hK hM 35 (Nat.le_of_ble_eq_true rfl) (Nat.le_of_ble_eq_true rfl) (htl _ mw_223) (fun _ h9 => h9) dX13_setSung_69 ?_
      refine lv_iconst (v := 4) hx hb dX13_setSung_72 (by decide) ?_
      refine lv_iload_n hx hb dX13_setSung_73 rfl (lv_at hl 1 rfl) ?_
      obtain ⟨w25, e_w25, h_w25⟩ : ∃ z : Int64, p3.toInt64 = z ∧ z.toInt = p3.toInt := ⟨_, rfl, fl_w _⟩
      refine lv_i2l (v := w25) hx hb dX13_setSung_74 e_w25 ?_
      have hk_4 : (4 : Int32).toInt = 4 := by decide
      refine mz_last (x := w25) hx hb hK hD hM hS 35 (Nat.le_of_ble_eq_true rfl) rfl (nn := 13) rfl (I := 4) (by decide) (by decide) (by decide) dX13_setSung_75 (fun H locs S hM hS _ _ => ?_)
      refine lv_aload_n hx hb dX13_setSung_76 rfl (lv_at hl 0 rfl) ?_
      refine mz_getR hx hb htl hown hK hM 35 (Nat.le_of_ble_eq_true rfl) (Nat.le_of_ble_eq_true rfl) (htl _ mw_223) (fun _ h9 => h9) dX13_setSung_77 ?_
      refine lv_iconst (v := 5) hx hb dX13_setSung_80 (by decide) ?_
      refine lv_iload hx hb dX13_setSung_81 (lv_at hl 2 rfl) ?_
      obtain ⟨w27, e_w27, h_w27⟩ : ∃ z : Int64, p4.toInt64 = z ∧ z.toInt = p4.toInt := ⟨_, rfl, fl_w _⟩
      refine lv_i2l (v := w27) hx hb dX13_setSung_83 e_w27 ?_
      have hk_5 : (5 : Int32).toInt = 5 := by decide
      refine mz_last (x := w27) hx hb hK hD hM hS 35 (Nat.le_of_ble_eq_true rfl) rfl (nn := 13) rfl (I := 5) (by decide) (by decide) (by decide) dX13_setSung_84 (fun H locs S hM hS _ _ => ?_)
      refine lv_aload_n hx hb dX13_setSung_85 rfl (lv_at hl 0 rfl) ?_
      refine mz_getR hx hb htl hown hK hM 35 (Nat.le_of_ble_eq_true rfl) (Nat.le_of_ble_eq_true rfl) (htl _ mw_223) (fun _ h9 => h9) dX13_setSung_86 ?_
      refine lv_bipush (v := 6) hx hb dX13_setSung_89 (by decide) ?_
      refine lv_iload hx hb dX13_setSung_91 (lv_at hl 3 rfl) ?_
      obtain ⟨w29, e_w29, h_w29⟩ : ∃ z : Int64, p5.toInt64 = z ∧ z.toInt = p5.toInt := ⟨_, rfl, fl_w _⟩
      refine lv_i2l (v := w29) hx hb dX13_setSung_93 e_w29 ?_
      have hk_6 : (6 : Int32).toInt = 6 := by decide
      refine mz_last (x := w29) hx hb hK hD hM hS 35 (Nat.le_of_ble_eq_true rfl) rfl (nn := 13) rfl (I := 6) (by decide) (by decide) (by decide) dX13_setSung_94 (fun H locs S hM hS _ _ => ?_)
      refine lv_aload_n hx hb dX13_setSung_95 rfl (lv_at hl 0 rfl) ?_
      refine mz_getR hx hb htl hown hK hM 35 (Nat.le_of_ble_eq_true rfl) (Nat.le_of_ble_eq_true rfl) (htl _ mw_223) (fun _ h9 => h9) dX13_setSung_96 ?_
      refine lv_bipush (v := 7) hx hb dX13_setSung_99 (by decide) ?_
      refine lv_iload hx hb dX13_setSung_101 (lv_at hl 4 rfl) ?_
      obtain ⟨w31, e_w31, h_w31⟩ : ∃ z : Int64, p6.toInt64 = z ∧ z.toInt = p6.toInt := ⟨_, rfl, fl_w _⟩
      refine lv_i2l (v := w31) hx hb dX13_setSung_103 e_w31 ?_
      have hk_7 : (7 : Int32).toInt = 7 := by decide
      refine mz_last (x := w31) hx hb hK hD hM hS 35 (Nat.le_of_ble_eq_true rfl) rfl (nn := 13) rfl (I := 7) (by decide) (by decide) (by decide) dX13_setSung_104 (fun H locs S hM hS _ _ => ?_)
      refine lv_aload_n hx hb dX13_setSung_105 rfl (lv_at hl 0 rfl) ?_
      refine mz_getR hx hb htl hown hK hM 35 (Nat.le_of_ble_eq_true rfl) (Nat.le_of_ble_eq_true rfl) (htl _ mw_223) (fun _ h9 => h9) dX13_setSung_106 ?_
      refine lv_bipush (v := 8) hx hb dX13_setSung_109 (by decide) ?_
      refine lv_aload_n hx hb dX13_setSung_111 rfl (lv_at hl 0 rfl) ?_
      refine lv_iconst (v := 0) hx hb dX13_setSung_112 (by decide) ?_
      obtain ⟨v34, hf33⟩ : ∃ z : Int32, Ra 3 6 = z := ⟨_, rfl⟩
      have hq_v34 := tk_rng v34
      have hk_0 : (0 : Int32).toInt = 0 := by decide
      refine mz_Vj (As := [.int 0]) (rest := [.int 8, .ref (ad 35)]) ⟨hx, hb, hml, hown, hts⟩ hK hM hS (k_X13_term_0 l D cy ld ad am hD _ _ _ _ v34 hf33) ⟨callB_of 1 hts (wl_in mw_1042) rfl rfl rfl (htl _ mw_5) (htl _ mw_1039) hd_yX13_term ⟨(Nat.le_of_ble_eq_true rfl), (Nat.le_of_ble_eq_true rfl)⟩, htl _ mw_1040, htl _ mw_1041⟩ rfl hl.1 rfl (Nat.le_of_ble_eq_true rfl) dX13_setSung_113 ⟨(Nat.le_of_ble_eq_true rfl), (Nat.le_of_ble_eq_true rfl)⟩ (fun v35 H locs hpo hM hS => ?_)
      have hpo36 := hpo
      have hq_v35 := tk_rng v35
      obtain ⟨w38, e_w38, h_w38⟩ : ∃ z : Int64, v35.toInt64 = z ∧ z.toInt = v35.toInt := ⟨_, rfl, fl_w _⟩
      refine lv_i2l (v := w38) hx hb dX13_setSung_116 e_w38 ?_
      have hk_8 : (8 : Int32).toInt = 8 := by decide
      refine mz_last (x := w38) hx hb hK hD hM hS 35 (Nat.le_of_ble_eq_true rfl) rfl (nn := 13) rfl (I := 8) (by decide) (by decide) (by decide) dX13_setSung_117 (fun H locs S hM hS _ _ => ?_)
      refine lv_aload_n hx hb dX13_setSung_118 rfl (lv_at hl 0 rfl) ?_
      refine mz_getR hx hb htl hown hK hM 35 (Nat.le_of_ble_eq_true rfl) (Nat.le_of_ble_eq_true rfl) (htl _ mw_223) (fun _ h9 => h9) dX13_setSung_119 ?_
      refine lv_bipush (v := 9) hx hb dX13_setSung_122 (by decide) ?_
      refine lv_aload_n hx hb dX13_setSung_124 rfl (lv_at hl 0 rfl) ?_
      refine lv_iconst (v := 3) hx hb dX13_setSung_125 (by decide) ?_
      obtain ⟨v41, hf40⟩ : ∃ z : Int32, Ra 3 9 = z := ⟨_, rfl⟩
      have hq_v41 := tk_rng v41
      have hk_3 : (3 : Int32).toInt = 3 := by decide
      refine mz_Vj (As := [.int 3]) (rest := [.int 9, .ref (ad 35)]) ⟨hx, hb, hml, hown, hts⟩ hK hM hS (k_X13_term_3 l D cy ld ad am hD _ _ _ _ v41 hf40) ⟨callB_of 1 hts (wl_in mw_1042) rfl rfl rfl (htl _ mw_5) (htl _ mw_1039) hd_yX13_term ⟨(Nat.le_of_ble_eq_true rfl), (Nat.le_of_ble_eq_true rfl)⟩, htl _ mw_1040, htl _ mw_1041⟩ rfl hl.1 rfl (Nat.le_of_ble_eq_true rfl) dX13_setSung_126 ⟨(Nat.le_of_ble_eq_true rfl), (Nat.le_of_ble_eq_true rfl)⟩ (fun v42 H locs hpo hM hS => ?_)
      have hpo43 := hpo
      have hq_v42 := tk_rng v42
      obtain ⟨w45, e_w45, h_w45⟩ : ∃ z : Int64, v42.toInt64 = z ∧ z.toInt = v42.toInt := ⟨_, rfl, fl_w _⟩
      refine lv_i2l (v := w45) hx hb dX13_setSung_129 e_w45 ?_
      have hk_9 : (9 : Int32).toInt = 9 := by decide
      refine mz_last (x := w45) hx hb hK hD hM hS 35 (Nat.le_of_ble_eq_true rfl) rfl (nn := 13) rfl (I := 9) (by decide) (by decide) (by decide) dX13_setSung_130 (fun H locs S hM hS _ _ => ?_)
      exact mz_vret hx hb hr hlocks ⟨hIF, hIG, hIR, (fun _ _ => rfl), (fun _ _ => rfl), (fun _ _ => rfl)⟩ hM hS dX13_setSung_131
    refine lv_icmp_ne (tgt := 53) hx hb dX13_setSung_44 (by decide) (fun c9 => ?_) (fun c9 => ?_)
    · have hc15 : ¬ (p1.toInt = (-1)) := fun h9 => c9 ((fi_eq rfl (show ((-1) : Int32).toInt = (-1) by decide)).mpr h9)
      refine lv_aload_n hx hb dX13_setSung_53 rfl (lv_at hl 0 rfl) ?_
      refine mz_getR hx hb htl hown hK hM 3 (Nat.le_of_ble_eq_true rfl) (Nat.le_of_ble_eq_true rfl) (htl _ mw_188) (fun _ h9 => h9) dX13_setSung_54 ?_
      refine lv_bipush (v := 58) hx hb dX13_setSung_57 (by decide) ?_
      refine lv_iconst (v := 2) hx hb dX13_setSung_59 (by decide) ?_
      refine lv_iload_n hx hb dX13_setSung_60 rfl (lv_at hl 1 rfl) ?_
      refine lv_imul hx hb dX13_setSung_61 ?_
      refine tk_mul (show (2 : Int32).toInt = 2 by decide) rfl (by omega) (by omega) (fun v47 h_v47 => ?_)
      refine lv_iadd hx hb dX13_setSung_62 ?_
      refine tk_add (show (58 : Int32).toInt = 58 by decide) rfl (by omega) (by omega) (fun v48 h_v48 => ?_)
      refine lv_iconst (v := 1) hx hb dX13_setSung_63 (by decide) ?_
      refine lv_iadd hx hb dX13_setSung_64 ?_
      refine tk_add rfl (show (1 : Int32).toInt = 1 by decide) (by omega) (by omega) (fun v49 h_v49 => ?_)
      refine mz_iald hx hb hK hM 3 (Nat.le_of_ble_eq_true rfl) rfl (nn := 5560) rfl rfl (by omega) (by omega) dX13_setSung_65 (fun v50 e_v50 => ?_)
      have hq_v50 := tk_rng v50
      obtain ⟨w51, e_w51, h_w51⟩ : ∃ z : Int64, v50.toInt64 = z ∧ z.toInt = v50.toInt := ⟨_, rfl, fl_w _⟩
      refine lv_i2l (v := w51) hx hb dX13_setSung_66 e_w51 ?_
      exact hj23 w51 _ (lv_sub hl [0, 2, 3, 4, 5] rfl)
    · have hc15 : p1.toInt = (-1) := (fi_eq rfl (show ((-1) : Int32).toInt = (-1) by decide)).mp c9
      refine lv_ldc2 hx hb hown (htl _ mw_691) dX13_setSung_47 ?_
      refine lv_goto (tgt := 67) hx hb dX13_setSung_50 (by decide) ?_
      have hk_m1 : ((-1) : Int64).toInt = (-1) := by decide
      exact hj23 (-1) _ (lv_sub hl [0, 2, 3, 4, 5] rfl)
  refine lv_icmp_ne (tgt := 24) hx hb dX13_setSung_15 (by decide) (fun c9 => ?_) (fun c9 => ?_)
  · have hc3 : ¬ (p1.toInt = (-1)) := fun h9 => c9 ((fi_eq rfl (show ((-1) : Int32).toInt = (-1) by decide)).mpr h9)
    refine lv_aload_n hx hb dX13_setSung_24 rfl (lv_at hl 0 rfl) ?_
    refine mz_getR hx hb htl hown hK hM 3 (Nat.le_of_ble_eq_true rfl) (Nat.le_of_ble_eq_true rfl) (htl _ mw_188) (fun _ h9 => h9) dX13_setSung_25 ?_
    refine lv_bipush (v := 58) hx hb dX13_setSung_28 (by decide) ?_
    refine lv_iconst (v := 2) hx hb dX13_setSung_30 (by decide) ?_
    refine lv_iload_n hx hb dX13_setSung_31 rfl (lv_at hl 1 rfl) ?_
    refine lv_imul hx hb dX13_setSung_32 ?_
    refine tk_mul (show (2 : Int32).toInt = 2 by decide) rfl (by omega) (by omega) (fun v52 h_v52 => ?_)
    refine lv_iadd hx hb dX13_setSung_33 ?_
    refine tk_add (show (58 : Int32).toInt = 58 by decide) rfl (by omega) (by omega) (fun v53 h_v53 => ?_)
    refine mz_iald hx hb hK hM 3 (Nat.le_of_ble_eq_true rfl) rfl (nn := 5560) rfl rfl (by omega) (by omega) dX13_setSung_34 (fun v54 e_v54 => ?_)
    have hq_v54 := tk_rng v54
    obtain ⟨w55, e_w55, h_w55⟩ : ∃ z : Int64, v54.toInt64 = z ∧ z.toInt = v54.toInt := ⟨_, rfl, fl_w _⟩
    refine lv_i2l (v := w55) hx hb dX13_setSung_35 e_w55 ?_
    exact hj13 w55 _ (lv_sub hl [0, 1, 3, 4, 5, 6] rfl)
  · have hc3 : p1.toInt = (-1) := (fi_eq rfl (show ((-1) : Int32).toInt = (-1) by decide)).mp c9
    refine lv_ldc2 hx hb hown (htl _ mw_691) dX13_setSung_18 ?_
    refine lv_goto (tgt := 36) hx hb dX13_setSung_21 (by decide) ?_
    have hk_m1 : ((-1) : Int64).toInt = (-1) := by decide
    exact hj13 (-1) _ (lv_sub hl [0, 1, 3, 4, 5, 6] rfl)
