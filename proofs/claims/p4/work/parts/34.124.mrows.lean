theorem hd_yX13_drawVerse : yX13_drawVerse.cls ≠ "java/lang/invoke/MethodHandle" ∧ yX13_drawVerse.cls ≠ "java/lang/invoke/VarHandle" ∧ (parseMethodDescriptor yX13_drawVerse.desc).map (fun d => d.parameters.length) = some 0 := by decide +kernel
theorem hd_yX13_loudest : yX13_loudest.cls ≠ "java/lang/invoke/MethodHandle" ∧ yX13_loudest.cls ≠ "java/lang/invoke/VarHandle" ∧ (parseMethodDescriptor yX13_loudest.desc).map (fun d => d.parameters.length) = some 0 := by decide +kernel
theorem dX13_result_0 : decode cX13_result 0 = .ok (.aload_n 0, 1) := by decide +kernel
theorem dX13_result_1 : decode cX13_result 1 = .ok (.iload_n 1, 1) := by decide +kernel
theorem dX13_result_2 : decode cX13_result 2 = .ok (.iconst 0, 1) := by decide +kernel
theorem dX13_result_3 : decode cX13_result 3 = .ok (.invokevirtual 207, 3) := by decide +kernel
theorem dX13_result_6 : decode cX13_result 6 = .ok (.ifCond .eq 12, 3) := by decide +kernel
theorem dX13_result_18 : decode cX13_result 18 = .ok (.aload_n 0, 1) := by decide +kernel
theorem dX13_result_19 : decode cX13_result 19 = .ok (.iload_n 1, 1) := by decide +kernel
theorem dX13_result_20 : decode cX13_result 20 = .ok (.iconst 0, 1) := by decide +kernel
theorem dX13_result_21 : decode cX13_result 21 = .ok (.invokevirtual 207, 3) := by decide +kernel
theorem dX13_result_24 : decode cX13_result 24 = .ok (.ifCond .ne 7, 3) := by decide +kernel
theorem dX13_result_31 : decode cX13_result 31 = .ok (.iconst 1, 1) := by decide +kernel
theorem dX13_result_32 : decode cX13_result 32 = .ok (.ireturn, 1) := by decide +kernel
theorem dX13_result_27 : decode cX13_result 27 = .ok (.iconst (-1), 1) := by decide +kernel
theorem dX13_result_28 : decode cX13_result 28 = .ok (.goto 4, 3) := by decide +kernel
theorem dX13_result_9 : decode cX13_result 9 = .ok (.aload_n 0, 1) := by decide +kernel
theorem dX13_result_10 : decode cX13_result 10 = .ok (.iload_n 2, 1) := by decide +kernel
theorem dX13_result_11 : decode cX13_result 11 = .ok (.iconst 0, 1) := by decide +kernel
theorem dX13_result_12 : decode cX13_result 12 = .ok (.invokevirtual 207, 3) := by decide +kernel
theorem dX13_result_15 : decode cX13_result 15 = .ok (.ifCond .ne 18, 3) := by decide +kernel
theorem dX13_result_33 : decode cX13_result 33 = .ok (.aload_n 0, 1) := by decide +kernel
theorem dX13_result_34 : decode cX13_result 34 = .ok (.iload_n 1, 1) := by decide +kernel
theorem dX13_result_35 : decode cX13_result 35 = .ok (.iload_n 2, 1) := by decide +kernel
theorem dX13_result_36 : decode cX13_result 36 = .ok (.iload_n 3, 1) := by decide +kernel
theorem dX13_result_37 : decode cX13_result 37 = .ok (.invokevirtual 458, 3) := by decide +kernel
theorem dX13_result_40 : decode cX13_result 40 = .ok (.aload_n 0, 1) := by decide +kernel
theorem dX13_result_41 : decode cX13_result 41 = .ok (.iconst (-1), 1) := by decide +kernel
theorem dX13_result_42 : decode cX13_result 42 = .ok (.putfield 471, 3) := by decide +kernel
theorem dX13_result_45 : decode cX13_result 45 = .ok (.aload_n 0, 1) := by decide +kernel
theorem dX13_result_46 : decode cX13_result 46 = .ok (.invokevirtual 434, 3) := by decide +kernel
theorem dX13_result_49 : decode cX13_result 49 = .ok (.ifCond .eq 88, 3) := by decide +kernel
theorem dX13_result_137 : decode cX13_result 137 = .ok (.aload_n 0, 1) := by decide +kernel
theorem dX13_result_138 : decode cX13_result 138 = .ok (.getfield 471, 3) := by decide +kernel
theorem dX13_result_141 : decode cX13_result 141 = .ok (.iconst (-1), 1) := by decide +kernel
theorem dX13_result_142 : decode cX13_result 142 = .ok (.if_icmp .ne 7, 3) := by decide +kernel
theorem dX13_result_149 : decode cX13_result 149 = .ok (.aload_n 0, 1) := by decide +kernel
theorem dX13_result_150 : decode cX13_result 150 = .ok (.getfield 471, 3) := by decide +kernel
theorem dX13_result_153 : decode cX13_result 153 = .ok (.iload_n 2, 1) := by decide +kernel
theorem dX13_result_154 : decode cX13_result 154 = .ok (.if_icmp .ne 7, 3) := by decide +kernel
theorem dX13_result_161 : decode cX13_result 161 = .ok (.iconst (-1), 1) := by decide +kernel
theorem dX13_result_162 : decode cX13_result 162 = .ok (.ireturn, 1) := by decide +kernel
theorem dX13_result_157 : decode cX13_result 157 = .ok (.iconst 1, 1) := by decide +kernel
theorem dX13_result_158 : decode cX13_result 158 = .ok (.goto 4, 3) := by decide +kernel
theorem dX13_result_145 : decode cX13_result 145 = .ok (.iconst 0, 1) := by decide +kernel
theorem dX13_result_146 : decode cX13_result 146 = .ok (.goto 16, 3) := by decide +kernel
theorem dX13_result_52 : decode cX13_result 52 = .ok (.aload_n 0, 1) := by decide +kernel
theorem dX13_result_53 : decode cX13_result 53 = .ok (.iconst 4, 1) := by decide +kernel
theorem dX13_result_54 : decode cX13_result 54 = .ok (.invokevirtual 194, 3) := by decide +kernel
theorem dX13_result_57 : decode cX13_result 57 = .ok (.iload_n 1, 1) := by decide +kernel
theorem dX13_result_68 : decode cX13_result 68 = .ok (.istore 6, 2) := by decide +kernel
theorem dX13_result_70 : decode cX13_result 70 = .ok (.iload 6, 2) := by decide +kernel
theorem dX13_result_72 : decode cX13_result 72 = .ok (.iconst (-1), 1) := by decide +kernel
theorem dX13_result_112 : decode cX13_result 112 = .ok (.istore 7, 2) := by decide +kernel
theorem dX13_result_114 : decode cX13_result 114 = .ok (.iload 7, 2) := by decide +kernel
theorem dX13_result_116 : decode cX13_result 116 = .ok (.iconst (-1), 1) := by decide +kernel
theorem dX13_result_117 : decode cX13_result 117 = .ok (.if_icmp .ne 10, 3) := by decide +kernel
theorem dX13_result_127 : decode cX13_result 127 = .ok (.aload_n 0, 1) := by decide +kernel
theorem dX13_result_128 : decode cX13_result 128 = .ok (.iload 7, 2) := by decide +kernel
theorem dX13_result_130 : decode cX13_result 130 = .ok (.invokevirtual 477, 3) := by decide +kernel
theorem dX13_result_133 : decode cX13_result 133 = .ok (.pop, 1) := by decide +kernel
theorem dX13_result_134 : decode cX13_result 134 = .ok (.goto (-89), 3) := by decide +kernel
theorem dX13_result_120 : decode cX13_result 120 = .ok (.aload_n 0, 1) := by decide +kernel
theorem dX13_result_121 : decode cX13_result 121 = .ok (.invokevirtual 167, 3) := by decide +kernel
theorem dX13_result_124 : decode cX13_result 124 = .ok (.goto 10, 3) := by decide +kernel
theorem dX13_result_73 : decode cX13_result 73 = .ok (.if_icmp .ne 10, 3) := by decide +kernel
theorem dX13_result_83 : decode cX13_result 83 = .ok (.iload 6, 2) := by decide +kernel
theorem dX13_result_85 : decode cX13_result 85 = .ok (.bipush (-2), 2) := by decide +kernel
theorem dX13_result_87 : decode cX13_result 87 = .ok (.if_icmp .ne 10, 3) := by decide +kernel
theorem dX13_result_97 : decode cX13_result 97 = .ok (.aload_n 0, 1) := by decide +kernel
theorem dX13_result_98 : decode cX13_result 98 = .ok (.iload 6, 2) := by decide +kernel
theorem dX13_result_100 : decode cX13_result 100 = .ok (.invokevirtual 501, 3) := by decide +kernel
theorem dX13_result_103 : decode cX13_result 103 = .ok (.ifCond .eq 8, 3) := by decide +kernel
theorem dX13_result_111 : decode cX13_result 111 = .ok (.iconst (-1), 1) := by decide +kernel
theorem dX13_result_106 : decode cX13_result 106 = .ok (.iload 6, 2) := by decide +kernel
theorem dX13_result_108 : decode cX13_result 108 = .ok (.goto 4, 3) := by decide +kernel
theorem dX13_result_90 : decode cX13_result 90 = .ok (.aload_n 0, 1) := by decide +kernel
theorem dX13_result_91 : decode cX13_result 91 = .ok (.invokevirtual 522, 3) := by decide +kernel
theorem dX13_result_94 : decode cX13_result 94 = .ok (.goto 18, 3) := by decide +kernel
theorem dX13_result_76 : decode cX13_result 76 = .ok (.aload_n 0, 1) := by decide +kernel
theorem dX13_result_77 : decode cX13_result 77 = .ok (.invokevirtual 519, 3) := by decide +kernel
theorem dX13_result_80 : decode cX13_result 80 = .ok (.goto 32, 3) := by decide +kernel
theorem dX13_result_58 : decode cX13_result 58 = .ok (.if_icmp .ne 8, 3) := by decide +kernel
theorem dX13_result_66 : decode cX13_result 66 = .ok (.iload 5, 2) := by decide +kernel
theorem dX13_result_61 : decode cX13_result 61 = .ok (.iload 4, 2) := by decide +kernel
theorem dX13_result_63 : decode cX13_result 63 = .ok (.goto 5, 3) := by decide +kernel
set_option maxHeartbeats 4000000 in
set_option maxRecDepth 100000 in
theorem k_X13_result (l : Launch) (D : va_G) (cy : Nat → ClassId) (ld ad : Nat → Nat) (am : Nat) (hD : mz_D ad am) (Fa : Nat → Int32) (Ga : Nat → Int64) (Ra : Nat → Nat → Int32) (Sa : Nat → Nat → Int64) (p1 : Int32) (p2 : Int32) (p3 : Int32) (p4 : Int32) (p5 : Int32) (hIF : mz_IF true Fa) (hIG : mz_IG Ga) (hIR : mz_IR [] true Ra) (hp_0 : 0 ≤ p1.toInt) (hp_1 : p1.toInt ≤ 7) (hp_2 : 0 ≤ p2.toInt) (hp_3 : p2.toInt ≤ 7) (hp_4 : (-1) ≤ p3.toInt) (hp_5 : p3.toInt ≤ 99) (hp_6 : (-2) ≤ p4.toInt) (hp_7 : p4.toInt ≤ 9) (hp_8 : (-2) ≤ p5.toInt) (hp_9 : p5.toInt ≤ 9) : Met l yX13_result (wl yX13_result cX13_result 8 (some .int)) ({ frames := 11, cells := 0, slots := 0, locals := 700 }) (mz_p D cy ld ad am Fa Ga Ra Sa [.ref am, .int p1, .int p2, .int p3, .int p4, .int p5]) (mz_i D cy ad am (fun r F G R S => mz_IF true F ∧ mz_IG G ∧ mz_IR [] true R ∧ (∀ k : Nat, k ∉ ([34, 38, 41] : List Nat) → F k = Fa k) ∧ (∀ k : Nat, k ∉ ([3] : List Nat) → R k = Ra k) ∧ (∀ k : Nat, k ∉ ([39, 40, 47] : List Nat) → G k = Ga k) ∧ rK2 (Ra 3) (R 3) ∧ (-1) ≤ r.toInt ∧ r.toInt ≤ 1)) 0 0 (mz_W ad am) := by
  refine mz_met (y := yX13_result) (cc := cX13_result) (maxL := 8) (ret := (some .int)) (av := [.ref am, .int p1, .int p2, .int p3, .int p4, .int p5]) _ (by decide) (Nat.le_of_ble_eq_true rfl) ?_
  intro p e s m args below meth c hx hb hr hml hts htl hown hlocks hK H locs hM hS ls hl
  have hown : s.vm.findClass RX13 = some m.cls := hown
  have hl : lv_has ls 8 [(0, .ref am), (1, .int p1), (2, .int p2), (3, .int p3), (4, .int p4), (5, .int p5)] := hl
  have hr_p1 := tk_rng p1
  have hr_p2 := tk_rng p2
  have hr_p3 := tk_rng p3
  have hr_p4 := tk_rng p4
  have hr_p5 := tk_rng p5
  refine lv_aload_n hx hb dX13_result_0 rfl (lv_at hl 0 rfl) ?_
  refine lv_iload_n hx hb dX13_result_1 rfl (lv_at hl 1 rfl) ?_
  refine lv_iconst (v := 0) hx hb dX13_result_2 (by decide) ?_
  have hk_0 : (0 : Int32).toInt = 0 := by decide
  refine mz_Vj (As := [.int p1, .int 0]) (rest := []) ⟨hx, hb, hml, hown, hts⟩ hK hM hS (k_X13_ofSinger_0 l D cy ld ad am hD _ _ _ _ p1 (hIF.weak) hIG hIR (by omega) (by omega)) ⟨callB_of 2 hts (wl_in mw_324) rfl rfl rfl (htl _ mw_5) (htl _ mw_321) hd_yX13_ofSinger ⟨(Nat.le_of_ble_eq_true rfl), (Nat.le_of_ble_eq_true rfl)⟩, htl _ mw_322, htl _ mw_323⟩ rfl hl.1 rfl (Nat.le_of_ble_eq_true rfl) dX13_result_3 ⟨(Nat.le_of_ble_eq_true rfl), (Nat.le_of_ble_eq_true rfl)⟩ (fun v1 H locs hpo hM hS => ?_)
  have hq_v1 := tk_rng v1
  refine lv_if_eq (tgt := 18) hx hb dX13_result_6 (by decide) (fun c9 => ?_) (fun c9 => ?_)
  · have hc3 : v1.toInt = 0 := (fi_eq rfl (show (0 : Int32).toInt = 0 by decide)).mp c9
    refine lv_aload_n hx hb dX13_result_18 rfl (lv_at hl 0 rfl) ?_
    refine lv_iload_n hx hb dX13_result_19 rfl (lv_at hl 1 rfl) ?_
    refine lv_iconst (v := 0) hx hb dX13_result_20 (by decide) ?_
    have hk_0 : (0 : Int32).toInt = 0 := by decide
    refine mz_Vj (As := [.int p1, .int 0]) (rest := []) ⟨hx, hb, hml, hown, hts⟩ hK hM hS (k_X13_ofSinger_0 l D cy ld ad am hD _ _ _ _ p1 (hIF.weak) hIG hIR (by omega) (by omega)) ⟨callB_of 2 hts (wl_in mw_324) rfl rfl rfl (htl _ mw_5) (htl _ mw_321) hd_yX13_ofSinger ⟨(Nat.le_of_ble_eq_true rfl), (Nat.le_of_ble_eq_true rfl)⟩, htl _ mw_322, htl _ mw_323⟩ rfl hl.1 rfl (Nat.le_of_ble_eq_true rfl) dX13_result_21 ⟨(Nat.le_of_ble_eq_true rfl), (Nat.le_of_ble_eq_true rfl)⟩ (fun v4 H locs hpo hM hS => ?_)
    have hq_v4 := tk_rng v4
    refine lv_if_ne (tgt := 31) hx hb dX13_result_24 (by decide) (fun c9 => ?_) (fun c9 => ?_)
    · have hc6 : ¬ (v4.toInt = 0) := fun h9 => c9 ((fi_eq rfl (show (0 : Int32).toInt = 0 by decide)).mpr h9)
      refine lv_iconst (v := 1) hx hb dX13_result_31 (by decide) ?_
      have hk_1 : (1 : Int32).toInt = 1 := by decide
      exact mz_iret (v := 1) hx hb hr rfl hlocks ⟨hIF, hIG, hIR, (fun _ _ => rfl), (fun _ _ => rfl), (fun _ _ => rfl), (rK2.refl rfl), (by omega), (by omega)⟩ hM hS dX13_result_32
    · have hc6 : v4.toInt = 0 := (fi_eq rfl (show (0 : Int32).toInt = 0 by decide)).mp c9
      refine lv_iconst (v := (-1)) hx hb dX13_result_27 (by decide) ?_
      refine lv_goto (tgt := 32) hx hb dX13_result_28 (by decide) ?_
      have hk_m1 : ((-1) : Int32).toInt = (-1) := by decide
      exact mz_iret (v := (-1)) hx hb hr rfl hlocks ⟨hIF, hIG, hIR, (fun _ _ => rfl), (fun _ _ => rfl), (fun _ _ => rfl), (rK2.refl rfl), (by omega), (by omega)⟩ hM hS dX13_result_32
  · have hc3 : ¬ (v1.toInt = 0) := fun h9 => c9 ((fi_eq rfl (show (0 : Int32).toInt = 0 by decide)).mpr h9)
    refine lv_aload_n hx hb dX13_result_9 rfl (lv_at hl 0 rfl) ?_
    refine lv_iload_n hx hb dX13_result_10 rfl (lv_at hl 2 rfl) ?_
    refine lv_iconst (v := 0) hx hb dX13_result_11 (by decide) ?_
    have hk_0 : (0 : Int32).toInt = 0 := by decide
    refine mz_Vj (As := [.int p2, .int 0]) (rest := []) ⟨hx, hb, hml, hown, hts⟩ hK hM hS (k_X13_ofSinger_0 l D cy ld ad am hD _ _ _ _ p2 (hIF.weak) hIG hIR (by omega) (by omega)) ⟨callB_of 2 hts (wl_in mw_324) rfl rfl rfl (htl _ mw_5) (htl _ mw_321) hd_yX13_ofSinger ⟨(Nat.le_of_ble_eq_true rfl), (Nat.le_of_ble_eq_true rfl)⟩, htl _ mw_322, htl _ mw_323⟩ rfl hl.1 rfl (Nat.le_of_ble_eq_true rfl) dX13_result_12 ⟨(Nat.le_of_ble_eq_true rfl), (Nat.le_of_ble_eq_true rfl)⟩ (fun v10 H locs hpo hM hS => ?_)
    have hq_v10 := tk_rng v10
    refine lv_if_ne (tgt := 33) hx hb dX13_result_15 (by decide) (fun c9 => ?_) (fun c9 => ?_)
    · have hc12 : ¬ (v10.toInt = 0) := fun h9 => c9 ((fi_eq rfl (show (0 : Int32).toInt = 0 by decide)).mpr h9)
      refine lv_aload_n hx hb dX13_result_33 rfl (lv_at hl 0 rfl) ?_
      refine lv_iload_n hx hb dX13_result_34 rfl (lv_at hl 1 rfl) ?_
      refine lv_iload_n hx hb dX13_result_35 rfl (lv_at hl 2 rfl) ?_
      refine lv_iload_n hx hb dX13_result_36 rfl (lv_at hl 3 rfl) ?_
      have hIR := hIR.bare
      refine mz_Vv (As := [.int p1, .int p2, .int p3]) (rest := []) ⟨hx, hb, hml, hown, hts⟩ hK hM hS (k_X13_layDuel l D cy ld ad am hD _ _ _ _ p1 p2 p3 hIF hIG hIR (by omega) (by omega) (by omega) (by omega) (by omega) (by omega)) ⟨callB_of 3 hts (wl_in mw_1083) rfl rfl rfl (htl _ mw_5) (htl _ mw_1080) hd_yX13_layDuel ⟨(Nat.le_of_ble_eq_true rfl), (Nat.le_of_ble_eq_true rfl)⟩, htl _ mw_1081, htl _ mw_1082⟩ rfl hl.1 rfl (Nat.le_of_ble_eq_true rfl) dX13_result_37 ⟨(Nat.le_of_ble_eq_true rfl), (Nat.le_of_ble_eq_true rfl)⟩ (fun H locs F G R S hpo hM hS => ?_)
      obtain ⟨hIF, hIG, hIR, hfr9, hrr9, hgr9, hrel9, hf13, hf14, hf15, hf16⟩ := hpo
      have hFF := mz_fr (K := [34, 38, 41]) (Fa := Fa) hfr9 (fun _ _ => rfl) (by decide)
      have hRR := mz_fr (K := [3]) (Fa := Ra) hrr9 (fun _ _ => rfl) (by decide)
      have hGG := mz_fr (K := [39, 40, 47]) (Fa := Ga) hgr9 (fun _ _ => rfl) (by decide)
      have hrel := (rK2.refl rfl).trans hrel9
      have hr_p1 : (-1) ≤ p1.toInt ∧ p1.toInt ≤ 7 := by have h9 := hIR.d; unfold dO at h9; rw [hf13] at h9; omega
      have hr_p2 : (-1) ≤ p2.toInt ∧ p2.toInt ≤ 7 := by have h9 := hIR.d; unfold dO at h9; rw [hf14] at h9; omega
      have hti_17 : p1.toInt ≠ -1 → p2.toInt ≠ -1 := by have h9 := hIR.d.2.2.2.2.2; rw [hf13, hf14] at h9; exact fun h8 => (h9 h8).1
      have hr_p1 : (-1) ≤ p1.toInt ∧ p1.toInt ≤ 7 := by have h9 := hIR.d; unfold dO at h9; rw [hf16] at h9; omega
      have hk_0 : (0 : Int32).toInt = 0 := by decide
      skip
      have hti_19 : p1.toInt ≠ -1 → p1.toInt ≠ -1 := by have h9 := hIR.d.2.2.2.2.2; rw [hf13, hf16] at h9; exact fun h8 => (h9 h8).2.2
      refine lv_aload_n hx hb dX13_result_40 rfl (lv_at hl 0 rfl) ?_
      refine lv_iconst (v := (-1)) hx hb dX13_result_41 (by decide) ?_
      have hk_m1 : ((-1) : Int32).toInt = (-1) := by decide
      have hk_m1 : ((-1) : Int32).toInt = (-1) := by decide
      refine mz_putI (ty := .int) (x := (-1)) hx hb htl hown hK hD hM hS 41 (Nat.le_of_ble_eq_true rfl) rfl (htl _ mw_1117) (fun _ h9 => h9) rfl (tyX13_ok 41 (by decide)) rfl rfl dX13_result_42 (fun H locs F hM hS hf9 hj9 => ?_)
      have hIF := hIF.put hf9 hj9 (show (-1) ≤ ((-1) : Int32).toInt by omega) (show ((-1) : Int32).toInt ≤ 7 by omega) (by decide)
      have hFF := mz_frp (K := [34, 38, 41]) (Fa := Fa) hj9 hFF (by decide)
      have hf22 := hf9
      have hl1090 : ∀ (N_l1090 : Nat) (v183 : Int32) (v184 : Int32) (v185 : Int32) (v186 : Int32) (H : Heap) (locs : List Loc) (F : Nat → Int32) (G : Nat → Int64) (R : Nat → Nat → Int32) (S : Nat → Nat → Int64), ((-1) ≤ v183.toInt) → (v183.toInt ≤ 7) → ((-1) ≤ v184.toInt) → (v184.toInt ≤ 7) → ((-1) ≤ v185.toInt) → (v185.toInt ≤ 11) → ((-1) ≤ v186.toInt) → (v186.toInt ≤ 7) → (mz_S D cy ad am F G R S H) → (va_S (mz_W ad am) s.heap H locs) → (mz_IF true F) → (mz_IG G) → (mz_IR [] true R) → (∀ k : Nat, k ∉ ([34, 38, 41] : List Nat) → F k = Fa k) → (∀ k : Nat, k ∉ ([39, 40, 47] : List Nat) → G k = Ga k) → (∀ k : Nat, k ∉ ([3] : List Nat) → R k = Ra k) → (rK2 (Ra 3) (R 3)) → (R 3 12 = v183) → (R 3 13 = v184) → (R 3 15 = v185) → (R 3 16 = v186) → (mz_md v183.toInt v186.toInt v185.toInt < (N_l1090 : Int)) → ∀ ls : Array Slot, lv_has ls 8 [(0, .ref am), (1, .int p1), (2, .int p2), (4, .int p4), (5, .int p5)] → W p l e ({ frames := 11, cells := 0, slots := 0, locals := 700 }) s m args below meth c H locs 0 0 (MQ below (mz_i D cy ad am (fun r F G R S => mz_IF true F ∧ mz_IG G ∧ mz_IR [] true R ∧ (∀ k : Nat, k ∉ ([34, 38, 41] : List Nat) → F k = Fa k) ∧ (∀ k : Nat, k ∉ ([3] : List Nat) → R k = Ra k) ∧ (∀ k : Nat, k ∉ ([39, 40, 47] : List Nat) → G k = Ga k) ∧ rK2 (Ra 3) (R 3) ∧ (-1) ≤ r.toInt ∧ r.toInt ≤ 1)) args s 0 0 (mz_W ad am)) (F0 m 45 ls []) := by
        intro N_l1090
        induction N_l1090 with
        | zero => intro v183 v184 v185 v186 H locs F G R S hq0_l1090 hq1_l1090 hq2_l1090 hq3_l1090 hq4_l1090 hq5_l1090 hq6_l1090 hq7_l1090 hM hS hIF hIG hIR hFF hGG hRR hrel hf13 hf14 hf15 hf16 hm_l1090 ls hl; exfalso; have h9 := mz_md.nn (f := v183.toInt) (t := v186.toInt) (h := v185.toInt) (by omega); omega
        | succ N_l1090 ih_l1090 =>
          intro v183 v184 v185 v186 H locs F G R S hq0_l1090 hq1_l1090 hq2_l1090 hq3_l1090 hq4_l1090 hq5_l1090 hq6_l1090 hq7_l1090 hM hS hIF hIG hIR hFF hGG hRR hrel hf13 hf14 hf15 hf16 hm_l1090 ls hl
          refine lv_aload_n hx hb dX13_result_45 rfl (lv_at hl 0 rfl) ?_
          refine mz_Vj (As := []) (rest := []) ⟨hx, hb, hml, hown, hts⟩ hK hM hS (k_X13_isDuel l D cy ld ad am hD _ _ _ _ v183 (hIF.weak) hIG hIR hf13) ⟨callB_of 0 hts (wl_in mw_1071) rfl rfl rfl (htl _ mw_5) (htl _ mw_1068) hd_yX13_isDuel ⟨(Nat.le_of_ble_eq_true rfl), (Nat.le_of_ble_eq_true rfl)⟩, htl _ mw_1069, htl _ mw_1070⟩ rfl hl.1 rfl (Nat.le_of_ble_eq_true rfl) dX13_result_46 ⟨(Nat.le_of_ble_eq_true rfl), (Nat.le_of_ble_eq_true rfl)⟩ (fun v1091 H locs hpo hM hS => ?_)
          obtain ⟨hpo1092, hpo1093, hpo1094, hpo1095, hpo1096, hpo1097⟩ := hpo
          have hq_v1091 := tk_rng v1091
          refine lv_if_eq (tgt := 137) hx hb dX13_result_49 (by decide) (fun c9 => ?_) (fun c9 => ?_)
          · have hc1099 : v1091.toInt = 0 := (fi_eq rfl (show (0 : Int32).toInt = 0 by decide)).mp c9
            have hwk_1177 : v183.toInt ≤ (-1) := by omega
            refine lv_aload_n hx hb dX13_result_137 rfl (lv_at hl 0 rfl) ?_
            refine mz_getI hx hb htl hown hK hM 41 (Nat.le_of_ble_eq_true rfl) rfl (htl _ mw_1117) (fun _ h9 => h9) dX13_result_138 (fun v1179 hf1178 => ?_)
            have hq_v1179 := tk_rng v1179
            have hr_v1179 : (-1) ≤ v1179.toInt ∧ v1179.toInt ≤ 7 := hIF.at hf1178
            refine lv_iconst (v := (-1)) hx hb dX13_result_141 (by decide) ?_
            refine lv_icmp_ne (tgt := 149) hx hb dX13_result_142 (by decide) (fun c9 => ?_) (fun c9 => ?_)
            · have hc1180 : ¬ (v1179.toInt = (-1)) := fun h9 => c9 ((fi_eq rfl (show ((-1) : Int32).toInt = (-1) by decide)).mpr h9)
              refine lv_aload_n hx hb dX13_result_149 rfl (lv_at hl 0 rfl) ?_
              refine mz_getI hx hb htl hown hK hM 41 (Nat.le_of_ble_eq_true rfl) rfl (htl _ mw_1117) (fun _ h9 => h9) dX13_result_150 (fun v9 e9 => ?_)
              refine fx_ti (v := v1179) (e9.symm.trans hf1178) ?_
              refine lv_iload_n hx hb dX13_result_153 rfl (lv_at hl 2 rfl) ?_
              refine lv_icmp_ne (tgt := 161) hx hb dX13_result_154 (by decide) (fun c9 => ?_) (fun c9 => ?_)
              · have hc1181 : ¬ (v1179.toInt = p2.toInt) := fun h9 => c9 ((fi_eq rfl rfl).mpr h9)
                refine lv_iconst (v := (-1)) hx hb dX13_result_161 (by decide) ?_
                have hk_m1 : ((-1) : Int32).toInt = (-1) := by decide
                exact mz_iret (v := (-1)) hx hb hr rfl hlocks ⟨hIF, hIG, hIR, hFF, hRR, hGG, hrel, (by omega), (by omega)⟩ hM hS dX13_result_162
              · have hc1181 : v1179.toInt = p2.toInt := (fi_eq rfl rfl).mp c9
                refine lv_iconst (v := 1) hx hb dX13_result_157 (by decide) ?_
                refine lv_goto (tgt := 162) hx hb dX13_result_158 (by decide) ?_
                have hk_1 : (1 : Int32).toInt = 1 := by decide
                exact mz_iret (v := 1) hx hb hr rfl hlocks ⟨hIF, hIG, hIR, hFF, hRR, hGG, hrel, (by omega), (by omega)⟩ hM hS dX13_result_162
            · have hc1180 : v1179.toInt = (-1) := (fi_eq rfl (show ((-1) : Int32).toInt = (-1) by decide)).mp c9
              refine lv_iconst (v := 0) hx hb dX13_result_145 (by decide) ?_
              refine lv_goto (tgt := 162) hx hb dX13_result_146 (by decide) ?_
              have hk_0 : (0 : Int32).toInt = 0 := by decide
              exact mz_iret (v := 0) hx hb hr rfl hlocks ⟨hIF, hIG, hIR, hFF, hRR, hGG, hrel, (by omega), (by omega)⟩ hM hS dX13_result_162
          · have hc1099 : ¬ (v1091.toInt = 0) := fun h9 => c9 ((fi_eq rfl (show (0 : Int32).toInt = 0 by decide)).mpr h9)
            have hwk_1182 : 0 ≤ v183.toInt := by omega
            refine lv_aload_n hx hb dX13_result_52 rfl (lv_at hl 0 rfl) ?_
            refine lv_iconst (v := 4) hx hb dX13_result_53 (by decide) ?_
            have hk_4 : (4 : Int32).toInt = 4 := by decide
            refine mz_Vj (As := [.int 4]) (rest := []) ⟨hx, hb, hml, hown, hts⟩ hK hM hS (k_X13_inDuel_4 l D cy ld ad am hD _ _ _ _ v186 hf16) ⟨callB_of 1 hts (wl_in mw_1046) rfl rfl rfl (htl _ mw_5) (htl _ mw_1043) hd_yX13_inDuel ⟨(Nat.le_of_ble_eq_true rfl), (Nat.le_of_ble_eq_true rfl)⟩, htl _ mw_1044, htl _ mw_1045⟩ rfl hl.1 rfl (Nat.le_of_ble_eq_true rfl) dX13_result_54 ⟨(Nat.le_of_ble_eq_true rfl), (Nat.le_of_ble_eq_true rfl)⟩ (fun v1183 H locs hpo hM hS => ?_)
            have hpo1184 := hpo
            have hq_v1183 := tk_rng v1183
            refine lv_iload_n hx hb dX13_result_57 rfl (lv_at hl 1 rfl) ?_
            have hj1189 : ∀ (v1188 : Int32), ((-2) ≤ v1188.toInt) → (v1188.toInt ≤ 9) → ∀ ls : Array Slot, lv_has ls 8 [(0, .ref am), (1, .int p1), (2, .int p2), (4, .int p4), (5, .int p5)] → W p l e ({ frames := 11, cells := 0, slots := 0, locals := 700 }) s m args below meth c H locs 0 0 (MQ below (mz_i D cy ad am (fun r F G R S => mz_IF true F ∧ mz_IG G ∧ mz_IR [] true R ∧ (∀ k : Nat, k ∉ ([34, 38, 41] : List Nat) → F k = Fa k) ∧ (∀ k : Nat, k ∉ ([3] : List Nat) → R k = Ra k) ∧ (∀ k : Nat, k ∉ ([39, 40, 47] : List Nat) → G k = Ga k) ∧ rK2 (Ra 3) (R 3) ∧ (-1) ≤ r.toInt ∧ r.toInt ≤ 1)) args s 0 0 (mz_W ad am)) (F0 m 68 ls [.int v1188]) := by
              intro v1188 hq0_j1189 hq1_j1189 ls hl
              have hti_1189 : v183.toInt ≠ -1 → v184.toInt ≠ -1 := by have h9 := hIR.d.2.2.2.2.2; rw [hf13, hf14] at h9; exact fun h8 => (h9 h8).1
              have hti_1190 : v183.toInt ≠ -1 → v185.toInt ≠ -1 := by have h9 := hIR.d.2.2.2.2.2; rw [hf13, hf15] at h9; exact fun h8 => (h9 h8).2.1
              have hti_1191 : v183.toInt ≠ -1 → v186.toInt ≠ -1 := by have h9 := hIR.d.2.2.2.2.2; rw [hf13, hf16] at h9; exact fun h8 => (h9 h8).2.2
              have hwk_1193 : 0 ≤ v184.toInt := by omega
              have hwk_1194 : 0 ≤ v185.toInt := by omega
              have hwk_1195 : 0 ≤ v186.toInt := by omega
              refine lv_istore (lv' := [(6, .int v1188), (0, .ref am), (1, .int p1), (2, .int p2), (4, .int p4), (5, .int p5)]) hx hb dX13_result_68 hl (by decide) rfl (fun ls hl => ?_)
              refine lv_iload hx hb dX13_result_70 (lv_at hl 0 rfl) ?_
              refine lv_iconst (v := (-1)) hx hb dX13_result_72 (by decide) ?_
              have hj1217 : ∀ (v1215 : Int32) (H : Heap) (locs : List Loc) (F : Nat → Int32) (G : Nat → Int64) (R : Nat → Nat → Int32) (S : Nat → Nat → Int64), ((-1) ≤ v1215.toInt) → (v1215.toInt ≤ 9) → (mz_S D cy ad am F G R S H) → (va_S (mz_W ad am) s.heap H locs) → (mz_IF true F) → (mz_IG G) → (mz_IR [] true R) → (∀ k : Nat, k ∉ ([34, 38, 41] : List Nat) → F k = Fa k) → (∀ k : Nat, k ∉ ([39, 40, 47] : List Nat) → G k = Ga k) → (∀ k : Nat, k ∉ ([3] : List Nat) → R k = Ra k) → (rK2 (Ra 3) (R 3)) → (R 3 12 = v183) → (R 3 13 = v184) → (R 3 15 = v185) → (R 3 16 = v186) → ∀ ls : Array Slot, lv_has ls 8 [(0, .ref am), (1, .int p1), (2, .int p2), (4, .int p4), (5, .int p5)] → W p l e ({ frames := 11, cells := 0, slots := 0, locals := 700 }) s m args below meth c H locs 0 0 (MQ below (mz_i D cy ad am (fun r F G R S => mz_IF true F ∧ mz_IG G ∧ mz_IR [] true R ∧ (∀ k : Nat, k ∉ ([34, 38, 41] : List Nat) → F k = Fa k) ∧ (∀ k : Nat, k ∉ ([3] : List Nat) → R k = Ra k) ∧ (∀ k : Nat, k ∉ ([39, 40, 47] : List Nat) → G k = Ga k) ∧ rK2 (Ra 3) (R 3) ∧ (-1) ≤ r.toInt ∧ r.toInt ≤ 1)) args s 0 0 (mz_W ad am)) (F0 m 112 ls [.int v1215]) := by
                intro v1215 H locs F G R S hq0_j1217 hq1_j1217 hM hS hIF hIG hIR hFF hGG hRR hrel hf13 hf14 hf15 hf16 ls hl
                have hti_1217 : v183.toInt ≠ -1 → v184.toInt ≠ -1 := by have h9 := hIR.d.2.2.2.2.2; rw [hf13, hf14] at h9; exact fun h8 => (h9 h8).1
                have hti_1218 : v183.toInt ≠ -1 → v185.toInt ≠ -1 := by have h9 := hIR.d.2.2.2.2.2; rw [hf13, hf15] at h9; exact fun h8 => (h9 h8).2.1
                have hti_1219 : v183.toInt ≠ -1 → v186.toInt ≠ -1 := by have h9 := hIR.d.2.2.2.2.2; rw [hf13, hf16] at h9; exact fun h8 => (h9 h8).2.2
                refine lv_istore (lv' := [(7, .int v1215), (0, .ref am), (1, .int p1), (2, .int p2), (4, .int p4), (5, .int p5)]) hx hb dX13_result_112 hl (by decide) rfl (fun ls hl => ?_)
                refine lv_iload hx hb dX13_result_114 (lv_at hl 0 rfl) ?_
                refine lv_iconst (v := (-1)) hx hb dX13_result_116 (by decide) ?_
                refine lv_icmp_ne (tgt := 127) hx hb dX13_result_117 (by decide) (fun c9 => ?_) (fun c9 => ?_)
                · have hc1221 : ¬ (v1215.toInt = (-1)) := fun h9 => c9 ((fi_eq rfl (show ((-1) : Int32).toInt = (-1) by decide)).mpr h9)
                  refine lv_aload_n hx hb dX13_result_127 rfl (lv_at hl 1 rfl) ?_
                  refine lv_iload hx hb dX13_result_128 (lv_at hl 0 rfl) ?_
                  refine mz_Vi (As := [.int v1215]) (rest := []) ⟨hx, hb, hml, hown, hts⟩ hK hM hS (k_X13_singIt l D cy ld ad am hD _ _ _ _ v1215 v183 v184 v185 v186 hIF hIG hIR hf13 hf14 hf15 hf16 (by omega) (by omega) (by omega)) ⟨callB_of 1 hts (wl_in mw_1116) rfl rfl rfl (htl _ mw_5) (htl _ mw_1113) hd_yX13_singIt ⟨(Nat.le_of_ble_eq_true rfl), (Nat.le_of_ble_eq_true rfl)⟩, htl _ mw_1114, htl _ mw_1115⟩ rfl hl.1 rfl (Nat.le_of_ble_eq_true rfl) dX13_result_130 ⟨(Nat.le_of_ble_eq_true rfl), (Nat.le_of_ble_eq_true rfl)⟩ (fun v1222 H locs F G R S hpo hM hS => ?_)
                  obtain ⟨hIF, hIG, hIR, hfr9, hrr9, hgr9, hrel9, hpo1223, hpo1224, hpo1225, hpo1226, hpo1227, hpo1228⟩ := hpo
                  have hq_v1222 := tk_rng v1222
                  have hFF := mz_fr (K := [34, 38, 41]) (Fa := Fa) hfr9 hFF (by decide)
                  have hRR := mz_fr (K := [3]) (Fa := Ra) hrr9 hRR (by decide)
                  have hGG := mz_fr (K := [39, 40, 47]) (Fa := Ga) hgr9 hGG (by decide)
                  have hrel := hrel.trans hrel9
                  obtain ⟨v1231, hf1230⟩ : ∃ z : Int32, R 3 12 = z := ⟨_, rfl⟩
                  have hq_v1231 := tk_rng v1231
                  rw [hf1230] at hpo1225 hpo1226 hpo1227 hpo1228
                  have hr_v1231 : (-1) ≤ v1231.toInt ∧ v1231.toInt ≤ 7 := by have h9 := hIR.d; unfold dO at h9; rw [hf1230] at h9; omega
                  obtain ⟨v1233, hf1232⟩ : ∃ z : Int32, R 3 15 = z := ⟨_, rfl⟩
                  have hq_v1233 := tk_rng v1233
                  rw [hf1232] at hpo1225 hpo1226 hpo1227 hpo1228
                  have hr_v1233 : (-1) ≤ v1233.toInt ∧ v1233.toInt ≤ 11 := by have h9 := hIR.d; unfold dO at h9; rw [hf1232] at h9; omega
                  have hti_1233 : v1231.toInt ≠ -1 → v1233.toInt ≠ -1 := by have h9 := hIR.d.2.2.2.2.2; rw [hf1230, hf1232] at h9; exact fun h8 => (h9 h8).2.1
                  obtain ⟨v1236, hf1235⟩ : ∃ z : Int32, R 3 16 = z := ⟨_, rfl⟩
                  have hq_v1236 := tk_rng v1236
                  rw [hf1235] at hpo1228
                  have hr_v1236 : (-1) ≤ v1236.toInt ∧ v1236.toInt ≤ 7 := by have h9 := hIR.d; unfold dO at h9; rw [hf1235] at h9; omega
                  have hti_1236 : v1231.toInt ≠ -1 → v1236.toInt ≠ -1 := by have h9 := hIR.d.2.2.2.2.2; rw [hf1230, hf1235] at h9; exact fun h8 => (h9 h8).2.2
                  obtain ⟨v1239, hf1238⟩ : ∃ z : Int32, R 3 13 = z := ⟨_, rfl⟩
                  have hq_v1239 := tk_rng v1239
                  have hr_v1239 : (-1) ≤ v1239.toInt ∧ v1239.toInt ≤ 7 := by have h9 := hIR.d; unfold dO at h9; rw [hf1238] at h9; omega
                  have hti_1239 : v1231.toInt ≠ -1 → v1239.toInt ≠ -1 := by have h9 := hIR.d.2.2.2.2.2; rw [hf1230, hf1238] at h9; exact fun h8 => (h9 h8).1
                  refine lv_pop hx hb dX13_result_133 rfl ?_
                  refine lv_goto (tgt := 45) hx hb dX13_result_134 (by decide) ?_
                  exact ih_l1090 v1231 v1239 v1233 v1236 _ _ _ _ _ _ (by omega) (by omega) (by omega) (by omega) (by omega) (by omega) (by omega) (by omega) hM hS hIF hIG hIR hFF hGG hRR hrel hf1230 hf1238 hf1232 hf1235 (mz_md.lt hm_l1090 (by omega) (by omega) (by omega) (by omega) (by omega) (by omega) (by omega)) _ (lv_sub hl [1, 2, 3, 4, 5] rfl)
                · have hc1221 : v1215.toInt = (-1) := (fi_eq rfl (show ((-1) : Int32).toInt = (-1) by decide)).mp c9
                  refine lv_aload_n hx hb dX13_result_120 rfl (lv_at hl 1 rfl) ?_
                  have hIR := hIR.bare
                  refine mz_Vv (As := []) (rest := []) ⟨hx, hb, hml, hown, hts⟩ hK hM hS (k_X13_endDuel l D cy ld ad am hD _ _ _ _ hIF hIG hIR) ⟨callB_of 0 hts (wl_in mw_248) rfl rfl rfl (htl _ mw_5) (htl _ mw_245) hd_yX13_endDuel ⟨(Nat.le_of_ble_eq_true rfl), (Nat.le_of_ble_eq_true rfl)⟩, htl _ mw_246, htl _ mw_247⟩ rfl hl.1 rfl (Nat.le_of_ble_eq_true rfl) dX13_result_121 ⟨(Nat.le_of_ble_eq_true rfl), (Nat.le_of_ble_eq_true rfl)⟩ (fun H locs F G R S hpo hM hS => ?_)
                  obtain ⟨hIF, hIG, hIR, hfr9, hrr9, hgr9, hrel9, hf1241, hf1242, hf1243, hf1244, hf1245⟩ := hpo
                  have hFF := mz_fr (K := [34, 38, 41]) (Fa := Fa) hfr9 hFF (by decide)
                  have hRR := mz_fr (K := [3]) (Fa := Ra) hrr9 hRR (by decide)
                  have hGG := mz_fr (K := [39, 40, 47]) (Fa := Ga) hgr9 hGG (by decide)
                  have hrel := hrel.trans hrel9
                  refine lv_goto (tgt := 134) hx hb dX13_result_124 (by decide) ?_
                  refine lv_goto (tgt := 45) hx hb dX13_result_134 (by decide) ?_
                  have hk_m1 : ((-1) : Int32).toInt = (-1) := by decide
                  have hk_m1 : ((-1) : Int32).toInt = (-1) := by decide
                  have hk_m1 : ((-1) : Int32).toInt = (-1) := by decide
                  have hk_m1 : ((-1) : Int32).toInt = (-1) := by decide
                  have hk_m1 : ((-1) : Int32).toInt = (-1) := by decide
                  have hk_m1 : ((-1) : Int32).toInt = (-1) := by decide
                  have hk_m1 : ((-1) : Int32).toInt = (-1) := by decide
                  exact ih_l1090 (-1) (-1) (-1) (-1) _ _ _ _ _ _ (by omega) (by omega) (by omega) (by omega) (by omega) (by omega) (by omega) (by omega) hM hS hIF hIG hIR hFF hGG hRR hrel hf1241 hf1242 hf1244 hf1245 (mz_md.lt hm_l1090 (by omega) (by omega) (by omega) (by omega) (by omega) (by omega) (by omega)) _ (lv_sub hl [1, 2, 3, 4, 5] rfl)
              refine lv_icmp_ne (tgt := 83) hx hb dX13_result_73 (by decide) (fun c9 => ?_) (fun c9 => ?_)
              · have hc1196 : ¬ (v1188.toInt = (-1)) := fun h9 => c9 ((fi_eq rfl (show ((-1) : Int32).toInt = (-1) by decide)).mpr h9)
                refine lv_iload hx hb dX13_result_83 (lv_at hl 0 rfl) ?_
                refine lv_bipush (v := (-2)) hx hb dX13_result_85 (by decide) ?_
                refine lv_icmp_ne (tgt := 97) hx hb dX13_result_87 (by decide) (fun c9 => ?_) (fun c9 => ?_)
                · have hc1247 : ¬ (v1188.toInt = (-2)) := fun h9 => c9 ((fi_eq rfl (show ((-2) : Int32).toInt = (-2) by decide)).mpr h9)
                  refine lv_aload_n hx hb dX13_result_97 rfl (lv_at hl 1 rfl) ?_
                  refine lv_iload hx hb dX13_result_98 (lv_at hl 0 rfl) ?_
                  refine mz_Vi (As := [.int v1188]) (rest := []) ⟨hx, hb, hml, hown, hts⟩ hK hM hS (k_X13_canSing l D cy ld ad am hD _ _ _ _ v1188 hIF hIG hIR (by omega) (by omega)) ⟨callB_of 1 hts (wl_in mw_1326) rfl rfl rfl (htl _ mw_5) (htl _ mw_1323) hd_yX13_canSing ⟨(Nat.le_of_ble_eq_true rfl), (Nat.le_of_ble_eq_true rfl)⟩, htl _ mw_1324, htl _ mw_1325⟩ rfl hl.1 rfl (Nat.le_of_ble_eq_true rfl) dX13_result_100 ⟨(Nat.le_of_ble_eq_true rfl), (Nat.le_of_ble_eq_true rfl)⟩ (fun v1248 H locs F G R S hpo hM hS => ?_)
                  obtain ⟨hIF, hIG, hIR, hfr9, hrr9, hgr9, hpo1249, hpo1250, hpo1251, hpo1252⟩ := hpo
                  have hq_v1248 := tk_rng v1248
                  have hFF := mz_fr (K := [34, 38, 41]) (Fa := Fa) hfr9 hFF (by decide)
                  have hRR := mz_fr (K := [3]) (Fa := Ra) hrr9 hRR (by decide)
                  have hGG := mz_fr (K := [39, 40, 47]) (Fa := Ga) hgr9 hGG (by decide)
                  have hrel : rK2 (Ra 3) (R 3) := hrel.trans (rK2.refl (hrr9 3 (by decide)))
                  have hf13 : R 3 12 = _ := (congrFun (hrr9 3 (by decide)) 12).trans hf13
                  have hf14 : R 3 13 = _ := (congrFun (hrr9 3 (by decide)) 13).trans hf14
                  have hf15 : R 3 15 = _ := (congrFun (hrr9 3 (by decide)) 15).trans hf15
                  have hf16 : R 3 16 = _ := (congrFun (hrr9 3 (by decide)) 16).trans hf16
                  refine lv_if_eq (tgt := 111) hx hb dX13_result_103 (by decide) (fun c9 => ?_) (fun c9 => ?_)
                  · have hc1254 : v1248.toInt = 0 := (fi_eq rfl (show (0 : Int32).toInt = 0 by decide)).mp c9
                    refine lv_iconst (v := (-1)) hx hb dX13_result_111 (by decide) ?_
                    have hk_m1 : ((-1) : Int32).toInt = (-1) := by decide
                    exact hj1217 (-1) _ _ _ _ _ _ (by omega) (by omega) hM hS hIF hIG hIR hFF hGG hRR hrel hf13 hf14 hf15 hf16 _ (lv_sub hl [1, 2, 3, 4, 5] rfl)
                  · have hc1254 : ¬ (v1248.toInt = 0) := fun h9 => c9 ((fi_eq rfl (show (0 : Int32).toInt = 0 by decide)).mpr h9)
                    refine lv_iload hx hb dX13_result_106 (lv_at hl 0 rfl) ?_
                    refine lv_goto (tgt := 112) hx hb dX13_result_108 (by decide) ?_
                    exact hj1217 v1188 _ _ _ _ _ _ (by omega) (by omega) hM hS hIF hIG hIR hFF hGG hRR hrel hf13 hf14 hf15 hf16 _ (lv_sub hl [1, 2, 3, 4, 5] rfl)
                · have hc1247 : v1188.toInt = (-2) := (fi_eq rfl (show ((-2) : Int32).toInt = (-2) by decide)).mp c9
                  refine lv_aload_n hx hb dX13_result_90 rfl (lv_at hl 1 rfl) ?_
                  refine mz_Vi (As := []) (rest := []) ⟨hx, hb, hml, hown, hts⟩ hK hM hS (k_X13_drawVerse l D cy ld ad am hD _ _ _ _ hIF hIG hIR) ⟨callB_of 0 hts (wl_in mw_1381) rfl rfl rfl (htl _ mw_5) (htl _ mw_1378) hd_yX13_drawVerse ⟨(Nat.le_of_ble_eq_true rfl), (Nat.le_of_ble_eq_true rfl)⟩, htl _ mw_1379, htl _ mw_1380⟩ rfl hl.1 rfl (Nat.le_of_ble_eq_true rfl) dX13_result_91 ⟨(Nat.le_of_ble_eq_true rfl), (Nat.le_of_ble_eq_true rfl)⟩ (fun v1255 H locs F G R S hpo hM hS => ?_)
                  obtain ⟨hIF, hIG, hIR, hfr9, hrr9, hgr9, hpo1256, hpo1257⟩ := hpo
                  have hq_v1255 := tk_rng v1255
                  have hFF := mz_fr (K := [34, 38, 41]) (Fa := Fa) hfr9 hFF (by decide)
                  have hRR := mz_fr (K := [3]) (Fa := Ra) hrr9 hRR (by decide)
                  have hGG := mz_fr (K := [39, 40, 47]) (Fa := Ga) hgr9 hGG (by decide)
                  have hrel : rK2 (Ra 3) (R 3) := hrel.trans (rK2.refl (hrr9 3 (by decide)))
                  have hf13 : R 3 12 = _ := (congrFun (hrr9 3 (by decide)) 12).trans hf13
                  have hf14 : R 3 13 = _ := (congrFun (hrr9 3 (by decide)) 13).trans hf14
                  have hf15 : R 3 15 = _ := (congrFun (hrr9 3 (by decide)) 15).trans hf15
                  have hf16 : R 3 16 = _ := (congrFun (hrr9 3 (by decide)) 16).trans hf16
                  refine lv_goto (tgt := 112) hx hb dX13_result_94 (by decide) ?_
                  exact hj1217 v1255 _ _ _ _ _ _ (by omega) (by omega) hM hS hIF hIG hIR hFF hGG hRR hrel hf13 hf14 hf15 hf16 _ (lv_sub hl [1, 2, 3, 4, 5] rfl)
              · have hc1196 : v1188.toInt = (-1) := (fi_eq rfl (show ((-1) : Int32).toInt = (-1) by decide)).mp c9
                refine lv_aload_n hx hb dX13_result_76 rfl (lv_at hl 1 rfl) ?_
                refine mz_Vi (As := []) (rest := []) ⟨hx, hb, hml, hown, hts⟩ hK hM hS (k_X13_loudest l D cy ld ad am hD _ _ _ _ hIF hIG hIR) ⟨callB_of 0 hts (wl_in mw_1377) rfl rfl rfl (htl _ mw_5) (htl _ mw_1374) hd_yX13_loudest ⟨(Nat.le_of_ble_eq_true rfl), (Nat.le_of_ble_eq_true rfl)⟩, htl _ mw_1375, htl _ mw_1376⟩ rfl hl.1 rfl (Nat.le_of_ble_eq_true rfl) dX13_result_77 ⟨(Nat.le_of_ble_eq_true rfl), (Nat.le_of_ble_eq_true rfl)⟩ (fun v1259 H locs F G R S hpo hM hS => ?_)
                obtain ⟨hIF, hIG, hIR, hfr9, hrr9, hgr9, hpo1260, hpo1261⟩ := hpo
                have hq_v1259 := tk_rng v1259
                have hFF := mz_fr (K := [34, 38, 41]) (Fa := Fa) hfr9 hFF (by decide)
                have hRR := mz_fr (K := [3]) (Fa := Ra) hrr9 hRR (by decide)
                have hGG := mz_fr (K := [39, 40, 47]) (Fa := Ga) hgr9 hGG (by decide)
                have hrel : rK2 (Ra 3) (R 3) := hrel.trans (rK2.refl (hrr9 3 (by decide)))
                have hf13 : R 3 12 = _ := (congrFun (hrr9 3 (by decide)) 12).trans hf13
                have hf14 : R 3 13 = _ := (congrFun (hrr9 3 (by decide)) 13).trans hf14
                have hf15 : R 3 15 = _ := (congrFun (hrr9 3 (by decide)) 15).trans hf15
                have hf16 : R 3 16 = _ := (congrFun (hrr9 3 (by decide)) 16).trans hf16
                refine lv_goto (tgt := 112) hx hb dX13_result_80 (by decide) ?_
                exact hj1217 v1259 _ _ _ _ _ _ (by omega) (by omega) hM hS hIF hIG hIR hFF hGG hRR hrel hf13 hf14 hf15 hf16 _ (lv_sub hl [1, 2, 3, 4, 5] rfl)
            refine lv_icmp_ne (tgt := 66) hx hb dX13_result_58 (by decide) (fun c9 => ?_) (fun c9 => ?_)
            · have hc1186 : ¬ (v1183.toInt = p1.toInt) := fun h9 => c9 ((fi_eq rfl rfl).mpr h9)
              refine lv_iload hx hb dX13_result_66 (lv_at hl 4 rfl) ?_
              exact hj1189 p5 (by omega) (by omega) _ (lv_sub hl [0, 1, 2, 3, 4] rfl)
            · have hc1186 : v1183.toInt = p1.toInt := (fi_eq rfl rfl).mp c9
              refine lv_iload hx hb dX13_result_61 (lv_at hl 3 rfl) ?_
              refine lv_goto (tgt := 68) hx hb dX13_result_63 (by decide) ?_
              exact hj1189 p4 (by omega) (by omega) _ (lv_sub hl [0, 1, 2, 3, 4] rfl)
      have hk_0 : (0 : Int32).toInt = 0 := by decide
      have hk_0 : (0 : Int32).toInt = 0 := by decide
      exact hl1090 30 p1 p2 0 p1 _ _ _ _ _ _ (by omega) (by omega) (by omega) (by omega) (by omega) (by omega) (by omega) (by omega) hM hS hIF hIG hIR hFF hGG hRR hrel hf13 hf14 hf15 hf16 (mz_md.le (by omega)) _ (lv_sub hl [0, 1, 2, 4, 5] rfl)
    · have hc12 : v10.toInt = 0 := (fi_eq rfl (show (0 : Int32).toInt = 0 by decide)).mp c9
      refine lv_aload_n hx hb dX13_result_18 rfl (lv_at hl 0 rfl) ?_
      refine lv_iload_n hx hb dX13_result_19 rfl (lv_at hl 1 rfl) ?_
      refine lv_iconst (v := 0) hx hb dX13_result_20 (by decide) ?_
      have hk_0 : (0 : Int32).toInt = 0 := by decide
      refine mz_Vj (As := [.int p1, .int 0]) (rest := []) ⟨hx, hb, hml, hown, hts⟩ hK hM hS (k_X13_ofSinger_0 l D cy ld ad am hD _ _ _ _ p1 (hIF.weak) hIG hIR (by omega) (by omega)) ⟨callB_of 2 hts (wl_in mw_324) rfl rfl rfl (htl _ mw_5) (htl _ mw_321) hd_yX13_ofSinger ⟨(Nat.le_of_ble_eq_true rfl), (Nat.le_of_ble_eq_true rfl)⟩, htl _ mw_322, htl _ mw_323⟩ rfl hl.1 rfl (Nat.le_of_ble_eq_true rfl) dX13_result_21 ⟨(Nat.le_of_ble_eq_true rfl), (Nat.le_of_ble_eq_true rfl)⟩ (fun v1263 H locs hpo hM hS => ?_)
      have hq_v1263 := tk_rng v1263
      refine lv_if_ne (tgt := 31) hx hb dX13_result_24 (by decide) (fun c9 => ?_) (fun c9 => ?_)
      · have hc1265 : ¬ (v1263.toInt = 0) := fun h9 => c9 ((fi_eq rfl (show (0 : Int32).toInt = 0 by decide)).mpr h9)
        refine lv_iconst (v := 1) hx hb dX13_result_31 (by decide) ?_
        have hk_1 : (1 : Int32).toInt = 1 := by decide
        exact mz_iret (v := 1) hx hb hr rfl hlocks ⟨hIF, hIG, hIR, (fun _ _ => rfl), (fun _ _ => rfl), (fun _ _ => rfl), (rK2.refl rfl), (by omega), (by omega)⟩ hM hS dX13_result_32
      · have hc1265 : v1263.toInt = 0 := (fi_eq rfl (show (0 : Int32).toInt = 0 by decide)).mp c9
        refine lv_iconst (v := (-1)) hx hb dX13_result_27 (by decide) ?_
        refine lv_goto (tgt := 32) hx hb dX13_result_28 (by decide) ?_
        have hk_m1 : ((-1) : Int32).toInt = (-1) := by decide
        exact mz_iret (v := (-1)) hx hb hr rfl hlocks ⟨hIF, hIG, hIR, (fun _ _ => rfl), (fun _ _ => rfl), (fun _ _ => rfl), (rK2.refl rfl), (by omega), (by omega)⟩ hM hS dX13_result_32
