theorem dX13_sight_0 : decode cX13_sight 0 = .ok (.aload_n 0, 1) := by decide +kernel
theorem dX13_sight_1 : decode cX13_sight 1 = .ok (.iconst 0, 1) := by decide +kernel
theorem dX13_sight_2 : decode cX13_sight 2 = .ok (.putfield 170, 3) := by decide +kernel
theorem dX13_sight_5 : decode cX13_sight 5 = .ok (.iload_n 3, 1) := by decide +kernel
theorem dX13_sight_6 : decode cX13_sight 6 = .ok (.i2l, 1) := by decide +kernel
theorem dX13_sight_7 : decode cX13_sight 7 = .ok (.lconst 0, 1) := by decide +kernel
theorem dX13_sight_8 : decode cX13_sight 8 = .ok (.ldc2_w 568, 3) := by decide +kernel
theorem dX13_sight_11 : decode cX13_sight 11 = .ok (.invokestatic 190, 3) := by decide +kernel
theorem dX13_sight_14 : decode cX13_sight 14 = .ok (.ifCond .eq 25, 3) := by decide +kernel
theorem dX13_sight_39 : decode cX13_sight 39 = .ok (.aload_n 0, 1) := by decide +kernel
theorem dX13_sight_40 : decode cX13_sight 40 = .ok (.iconst (-1), 1) := by decide +kernel
theorem dX13_sight_41 : decode cX13_sight 41 = .ok (.invokevirtual 183, 3) := by decide +kernel
theorem dX13_sight_44 : decode cX13_sight 44 = .ok (.ireturn, 1) := by decide +kernel
theorem dX13_sight_17 : decode cX13_sight 17 = .ok (.iload 4, 2) := by decide +kernel
theorem dX13_sight_19 : decode cX13_sight 19 = .ok (.i2l, 1) := by decide +kernel
theorem dX13_sight_20 : decode cX13_sight 20 = .ok (.lconst 0, 1) := by decide +kernel
theorem dX13_sight_21 : decode cX13_sight 21 = .ok (.lconst 1, 1) := by decide +kernel
theorem dX13_sight_22 : decode cX13_sight 22 = .ok (.invokestatic 190, 3) := by decide +kernel
theorem dX13_sight_25 : decode cX13_sight 25 = .ok (.ifCond .eq 14, 3) := by decide +kernel
theorem dX13_sight_28 : decode cX13_sight 28 = .ok (.iload 5, 2) := by decide +kernel
theorem dX13_sight_30 : decode cX13_sight 30 = .ok (.i2l, 1) := by decide +kernel
theorem dX13_sight_31 : decode cX13_sight 31 = .ok (.lconst 0, 1) := by decide +kernel
theorem dX13_sight_32 : decode cX13_sight 32 = .ok (.lconst 1, 1) := by decide +kernel
theorem dX13_sight_33 : decode cX13_sight 33 = .ok (.invokestatic 190, 3) := by decide +kernel
theorem dX13_sight_36 : decode cX13_sight 36 = .ok (.ifCond .ne 9, 3) := by decide +kernel
theorem dX13_sight_45 : decode cX13_sight 45 = .ok (.aload_n 0, 1) := by decide +kernel
theorem dX13_sight_46 : decode cX13_sight 46 = .ok (.iload_n 1, 1) := by decide +kernel
theorem dX13_sight_47 : decode cX13_sight 47 = .ok (.invokevirtual 216, 3) := by decide +kernel
theorem dX13_sight_50 : decode cX13_sight 50 = .ok (.ifCond .eq 11, 3) := by decide +kernel
theorem dX13_sight_61 : decode cX13_sight 61 = .ok (.aload_n 0, 1) := by decide +kernel
theorem dX13_sight_62 : decode cX13_sight 62 = .ok (.bipush (-2), 2) := by decide +kernel
theorem dX13_sight_64 : decode cX13_sight 64 = .ok (.invokevirtual 183, 3) := by decide +kernel
theorem dX13_sight_67 : decode cX13_sight 67 = .ok (.ireturn, 1) := by decide +kernel
theorem dX13_sight_53 : decode cX13_sight 53 = .ok (.aload_n 0, 1) := by decide +kernel
theorem dX13_sight_54 : decode cX13_sight 54 = .ok (.iload_n 2, 1) := by decide +kernel
theorem dX13_sight_55 : decode cX13_sight 55 = .ok (.invokevirtual 201, 3) := by decide +kernel
theorem dX13_sight_58 : decode cX13_sight 58 = .ok (.ifCond .ne 10, 3) := by decide +kernel
theorem dX13_sight_68 : decode cX13_sight 68 = .ok (.aload_n 0, 1) := by decide +kernel
theorem dX13_sight_69 : decode cX13_sight 69 = .ok (.getfield 13, 3) := by decide +kernel
theorem dX13_sight_72 : decode cX13_sight 72 = .ok (.iconst 3, 1) := by decide +kernel
theorem dX13_sight_73 : decode cX13_sight 73 = .ok (.iaload, 1) := by decide +kernel
theorem dX13_sight_74 : decode cX13_sight 74 = .ok (.istore 6, 2) := by decide +kernel
theorem dX13_sight_76 : decode cX13_sight 76 = .ok (.iload 6, 2) := by decide +kernel
theorem dX13_sight_78 : decode cX13_sight 78 = .ok (.bipush 8, 2) := by decide +kernel
theorem dX13_sight_80 : decode cX13_sight 80 = .ok (.if_icmp .ne 10, 3) := by decide +kernel
theorem dX13_sight_90 : decode cX13_sight 90 = .ok (.bipush 116, 2) := by decide +kernel
theorem dX13_sight_92 : decode cX13_sight 92 = .ok (.iconst 5, 1) := by decide +kernel
theorem dX13_sight_93 : decode cX13_sight 93 = .ok (.iload 6, 2) := by decide +kernel
theorem dX13_sight_95 : decode cX13_sight 95 = .ok (.imul, 1) := by decide +kernel
theorem dX13_sight_96 : decode cX13_sight 96 = .ok (.iadd, 1) := by decide +kernel
theorem dX13_sight_97 : decode cX13_sight 97 = .ok (.istore 7, 2) := by decide +kernel
theorem dX13_sight_99 : decode cX13_sight 99 = .ok (.aload_n 0, 1) := by decide +kernel
theorem dX13_sight_100 : decode cX13_sight 100 = .ok (.getfield 13, 3) := by decide +kernel
theorem dX13_sight_103 : decode cX13_sight 103 = .ok (.iload 7, 2) := by decide +kernel
theorem dX13_sight_105 : decode cX13_sight 105 = .ok (.iload_n 1, 1) := by decide +kernel
theorem dX13_sight_106 : decode cX13_sight 106 = .ok (.iastore, 1) := by decide +kernel
theorem dX13_sight_107 : decode cX13_sight 107 = .ok (.aload_n 0, 1) := by decide +kernel
theorem dX13_sight_108 : decode cX13_sight 108 = .ok (.getfield 13, 3) := by decide +kernel
theorem dX13_sight_111 : decode cX13_sight 111 = .ok (.iload 7, 2) := by decide +kernel
theorem dX13_sight_113 : decode cX13_sight 113 = .ok (.iconst 1, 1) := by decide +kernel
theorem dX13_sight_114 : decode cX13_sight 114 = .ok (.iadd, 1) := by decide +kernel
theorem dX13_sight_115 : decode cX13_sight 115 = .ok (.iload_n 2, 1) := by decide +kernel
theorem dX13_sight_116 : decode cX13_sight 116 = .ok (.iastore, 1) := by decide +kernel
theorem dX13_sight_117 : decode cX13_sight 117 = .ok (.aload_n 0, 1) := by decide +kernel
theorem dX13_sight_118 : decode cX13_sight 118 = .ok (.getfield 13, 3) := by decide +kernel
theorem dX13_sight_121 : decode cX13_sight 121 = .ok (.iload 7, 2) := by decide +kernel
theorem dX13_sight_123 : decode cX13_sight 123 = .ok (.iconst 2, 1) := by decide +kernel
theorem dX13_sight_124 : decode cX13_sight 124 = .ok (.iadd, 1) := by decide +kernel
theorem dX13_sight_125 : decode cX13_sight 125 = .ok (.iload_n 3, 1) := by decide +kernel
theorem dX13_sight_126 : decode cX13_sight 126 = .ok (.iastore, 1) := by decide +kernel
theorem dX13_sight_127 : decode cX13_sight 127 = .ok (.aload_n 0, 1) := by decide +kernel
theorem dX13_sight_128 : decode cX13_sight 128 = .ok (.getfield 13, 3) := by decide +kernel
theorem dX13_sight_131 : decode cX13_sight 131 = .ok (.iload 7, 2) := by decide +kernel
theorem dX13_sight_133 : decode cX13_sight 133 = .ok (.iconst 3, 1) := by decide +kernel
theorem dX13_sight_134 : decode cX13_sight 134 = .ok (.iadd, 1) := by decide +kernel
theorem dX13_sight_135 : decode cX13_sight 135 = .ok (.iload 4, 2) := by decide +kernel
theorem dX13_sight_137 : decode cX13_sight 137 = .ok (.iastore, 1) := by decide +kernel
theorem dX13_sight_138 : decode cX13_sight 138 = .ok (.aload_n 0, 1) := by decide +kernel
theorem dX13_sight_139 : decode cX13_sight 139 = .ok (.getfield 13, 3) := by decide +kernel
theorem dX13_sight_142 : decode cX13_sight 142 = .ok (.iload 7, 2) := by decide +kernel
theorem dX13_sight_144 : decode cX13_sight 144 = .ok (.iconst 4, 1) := by decide +kernel
theorem dX13_sight_145 : decode cX13_sight 145 = .ok (.iadd, 1) := by decide +kernel
theorem dX13_sight_146 : decode cX13_sight 146 = .ok (.iload 5, 2) := by decide +kernel
theorem dX13_sight_148 : decode cX13_sight 148 = .ok (.iastore, 1) := by decide +kernel
theorem dX13_sight_149 : decode cX13_sight 149 = .ok (.aload_n 0, 1) := by decide +kernel
theorem dX13_sight_150 : decode cX13_sight 150 = .ok (.getfield 13, 3) := by decide +kernel
theorem dX13_sight_153 : decode cX13_sight 153 = .ok (.iconst 3, 1) := by decide +kernel
theorem dX13_sight_154 : decode cX13_sight 154 = .ok (.dup2, 1) := by decide +kernel
theorem dX13_sight_155 : decode cX13_sight 155 = .ok (.iaload, 1) := by decide +kernel
theorem dX13_sight_156 : decode cX13_sight 156 = .ok (.iconst 1, 1) := by decide +kernel
theorem dX13_sight_157 : decode cX13_sight 157 = .ok (.iadd, 1) := by decide +kernel
theorem dX13_sight_158 : decode cX13_sight 158 = .ok (.iastore, 1) := by decide +kernel
theorem dX13_sight_159 : decode cX13_sight 159 = .ok (.aload_n 0, 1) := by decide +kernel
theorem dX13_sight_160 : decode cX13_sight 160 = .ok (.iload 6, 2) := by decide +kernel
theorem dX13_sight_162 : decode cX13_sight 162 = .ok (.iconst 1, 1) := by decide +kernel
theorem dX13_sight_163 : decode cX13_sight 163 = .ok (.iadd, 1) := by decide +kernel
theorem dX13_sight_164 : decode cX13_sight 164 = .ok (.invokevirtual 183, 3) := by decide +kernel
theorem dX13_sight_167 : decode cX13_sight 167 = .ok (.ireturn, 1) := by decide +kernel
theorem dX13_sight_83 : decode cX13_sight 83 = .ok (.aload_n 0, 1) := by decide +kernel
theorem dX13_sight_84 : decode cX13_sight 84 = .ok (.bipush (-5), 2) := by decide +kernel
theorem dX13_sight_86 : decode cX13_sight 86 = .ok (.invokevirtual 183, 3) := by decide +kernel
theorem dX13_sight_89 : decode cX13_sight 89 = .ok (.ireturn, 1) := by decide +kernel
set_option maxHeartbeats 4000000 in
set_option maxRecDepth 100000 in
theorem k_X13_sight (l : Launch) (D : va_G) (cy : Nat → ClassId) (ld ad : Nat → Nat) (am : Nat) (hD : mz_D ad am) (Fa : Nat → Int32) (Ga : Nat → Int64) (Ra : Nat → Nat → Int32) (Sa : Nat → Nat → Int64) (p1 : Int32) (p2 : Int32) (p3 : Int32) (p4 : Int32) (p5 : Int32) (hIF : mz_IF true Fa) (hIG : mz_IG Ga) (hIR : mz_IR [] true Ra) : Met l yX13_sight (wl yX13_sight cX13_sight 8 (some .int)) ({ frames := 5, cells := 0, slots := 0, locals := 280 }) (mz_p D cy ld ad am Fa Ga Ra Sa [.ref am, .int p1, .int p2, .int p3, .int p4, .int p5]) (mz_i D cy ad am (fun r F G R S => mz_IF true F ∧ mz_IG G ∧ mz_IR [] true R ∧ (∀ k : Nat, k ∉ ([0, 1] : List Nat) → F k = Fa k) ∧ (∀ k : Nat, k ∉ ([2, 3] : List Nat) → R k = Ra k) ∧ (∀ k : Nat, k ∉ ([] : List Nat) → G k = Ga k) ∧ (-5) ≤ r.toInt ∧ r.toInt ≤ 8)) 0 0 (mz_W ad am) := by
  refine mz_met (y := yX13_sight) (cc := cX13_sight) (maxL := 8) (ret := (some .int)) (av := [.ref am, .int p1, .int p2, .int p3, .int p4, .int p5]) _ (by decide) (Nat.le_of_ble_eq_true rfl) ?_
  intro p e s m args below meth c hx hb hr hml hts htl hown hlocks hK H locs hM hS ls hl
  have hown : s.vm.findClass RX13 = some m.cls := hown
  have hl : lv_has ls 8 [(0, .ref am), (1, .int p1), (2, .int p2), (3, .int p3), (4, .int p4), (5, .int p5)] := hl
  have hr_p1 := tk_rng p1
  have hr_p2 := tk_rng p2
  have hr_p3 := tk_rng p3
  have hr_p4 := tk_rng p4
  have hr_p5 := tk_rng p5
  refine lv_aload_n hx hb dX13_sight_0 rfl (lv_at hl 0 rfl) ?_
  refine lv_iconst (v := 0) hx hb dX13_sight_1 (by decide) ?_
  have hk_0 : (0 : Int32).toInt = 0 := by decide
  refine mz_putI (ty := .int) (x := 0) hx hb htl hown hK hD hM hS 0 (Nat.le_of_ble_eq_true rfl) rfl (htl _ mw_286) (fun _ h9 => h9) rfl (tyX13_ok 0 (by decide)) rfl rfl dX13_sight_2 (fun H locs F hM hS hf9 hj9 => ?_)
  have hIF := hIF.put hf9 hj9 (tk_rng _).1 (tk_rng _).2 (by decide)
  have hFF := mz_frp (K := [0, 1]) (Fa := Fa) hj9 (fun _ _ => rfl) (by decide)
  have hf2 := hf9
  refine lv_iload_n hx hb dX13_sight_5 rfl (lv_at hl 3 rfl) ?_
  obtain ⟨w3, e_w3, h_w3⟩ : ∃ z : Int64, p3.toInt64 = z ∧ z.toInt = p3.toInt := ⟨_, rfl, fl_w _⟩
  refine lv_i2l (v := w3) hx hb dX13_sight_6 e_w3 ?_
  refine lv_lconst (v := 0) hx hb dX13_sight_7 (by decide) ?_
  refine lv_ldc2 hx hb hown (htl _ mw_1494) dX13_sight_8 ?_
  have hk_0 : (0 : Int64).toInt = 0 := by decide
  have hk_11 : (11 : Int64).toInt = 11 := by decide
  refine mz_Sj (As := [.long w3, .long 0, .long 11]) (rest := []) ⟨hx, hb, hml, hown, hts⟩ hK hM hS (k_X13_in l D cy ld ad am hD _ _ _ _ w3 0 11) ⟨callB_of 3 hts (wl_in mw_292) rfl rfl rfl (htl _ mw_5) (htl _ mw_290) hd_yX13_in ⟨(Nat.le_of_ble_eq_true rfl), (Nat.le_of_ble_eq_true rfl)⟩, htl _ mw_291⟩ rfl hl.1 rfl (Nat.le_of_ble_eq_true rfl) dX13_sight_11 ⟨(Nat.le_of_ble_eq_true rfl), (Nat.le_of_ble_eq_true rfl)⟩ (fun v4 H locs hpo hM hS => ?_)
  obtain ⟨hpo5, hpo6, hpo10, hpo11, hpo12, hpo13⟩ := hpo
  have hq_v4 := tk_rng v4
  refine lv_if_eq (tgt := 39) hx hb dX13_sight_14 (by decide) (fun c9 => ?_) (fun c9 => ?_)
  · have hc15 : v4.toInt = 0 := (fi_eq rfl (show (0 : Int32).toInt = 0 by decide)).mp c9
    refine lv_aload_n hx hb dX13_sight_39 rfl (lv_at hl 0 rfl) ?_
    refine lv_iconst (v := (-1)) hx hb dX13_sight_40 (by decide) ?_
    have hk_m1 : ((-1) : Int32).toInt = (-1) := by decide
    refine mz_Vi (As := [.int (-1)]) (rest := []) ⟨hx, hb, hml, hown, hts⟩ hK hM hS (k_X13_tell l D cy ld ad am hD _ _ _ _ (-1) hIF hIG hIR (by omega) (by omega)) ⟨callB_of 1 hts (wl_in mw_296) rfl rfl rfl (htl _ mw_5) (htl _ mw_293) hd_yX13_tell ⟨(Nat.le_of_ble_eq_true rfl), (Nat.le_of_ble_eq_true rfl)⟩, htl _ mw_294, htl _ mw_295⟩ rfl hl.1 rfl (Nat.le_of_ble_eq_true rfl) dX13_sight_41 ⟨(Nat.le_of_ble_eq_true rfl), (Nat.le_of_ble_eq_true rfl)⟩ (fun v16 H locs F G R S hpo hM hS => ?_)
    obtain ⟨hIF, hIG, hIR, hfr9, hrr9, hgr9, hpo17⟩ := hpo
    have hq_v16 := tk_rng v16
    have hFF := mz_fr (K := [0, 1]) (Fa := Fa) hfr9 hFF (by decide)
    have hRR := mz_fr (K := [2, 3]) (Fa := Ra) hrr9 (fun _ _ => rfl) (by decide)
    have hGG := mz_fr (K := []) (Fa := Ga) hgr9 (fun _ _ => rfl) (by decide)
    have hf2 := (hfr9 0 (by decide)).trans hf2
    exact mz_iret (v := v16) hx hb hr rfl hlocks ⟨hIF, hIG, hIR, hFF, hRR, hGG, (by omega), (by omega)⟩ hM hS dX13_sight_44
  · have hc15 : ¬ (v4.toInt = 0) := fun h9 => c9 ((fi_eq rfl (show (0 : Int32).toInt = 0 by decide)).mpr h9)
    have hwk_19 : 0 ≤ w3.toInt ∧ w3.toInt ≤ 11 := by omega
    refine lv_iload hx hb dX13_sight_17 (lv_at hl 4 rfl) ?_
    obtain ⟨w20, e_w20, h_w20⟩ : ∃ z : Int64, p4.toInt64 = z ∧ z.toInt = p4.toInt := ⟨_, rfl, fl_w _⟩
    refine lv_i2l (v := w20) hx hb dX13_sight_19 e_w20 ?_
    refine lv_lconst (v := 0) hx hb dX13_sight_20 (by decide) ?_
    refine lv_lconst (v := 1) hx hb dX13_sight_21 (by decide) ?_
    have hk_0 : (0 : Int64).toInt = 0 := by decide
    have hk_1 : (1 : Int64).toInt = 1 := by decide
    refine mz_Sj (As := [.long w20, .long 0, .long 1]) (rest := []) ⟨hx, hb, hml, hown, hts⟩ hK hM hS (k_X13_in l D cy ld ad am hD _ _ _ _ w20 0 1) ⟨callB_of 3 hts (wl_in mw_292) rfl rfl rfl (htl _ mw_5) (htl _ mw_290) hd_yX13_in ⟨(Nat.le_of_ble_eq_true rfl), (Nat.le_of_ble_eq_true rfl)⟩, htl _ mw_291⟩ rfl hl.1 rfl (Nat.le_of_ble_eq_true rfl) dX13_sight_22 ⟨(Nat.le_of_ble_eq_true rfl), (Nat.le_of_ble_eq_true rfl)⟩ (fun v21 H locs hpo hM hS => ?_)
    obtain ⟨hpo22, hpo23, hpo24, hpo25, hpo26, hpo27⟩ := hpo
    have hq_v21 := tk_rng v21
    refine lv_if_eq (tgt := 39) hx hb dX13_sight_25 (by decide) (fun c9 => ?_) (fun c9 => ?_)
    · have hc29 : v21.toInt = 0 := (fi_eq rfl (show (0 : Int32).toInt = 0 by decide)).mp c9
      refine lv_aload_n hx hb dX13_sight_39 rfl (lv_at hl 0 rfl) ?_
      refine lv_iconst (v := (-1)) hx hb dX13_sight_40 (by decide) ?_
      have hk_m1 : ((-1) : Int32).toInt = (-1) := by decide
      refine mz_Vi (As := [.int (-1)]) (rest := []) ⟨hx, hb, hml, hown, hts⟩ hK hM hS (k_X13_tell l D cy ld ad am hD _ _ _ _ (-1) hIF hIG hIR (by omega) (by omega)) ⟨callB_of 1 hts (wl_in mw_296) rfl rfl rfl (htl _ mw_5) (htl _ mw_293) hd_yX13_tell ⟨(Nat.le_of_ble_eq_true rfl), (Nat.le_of_ble_eq_true rfl)⟩, htl _ mw_294, htl _ mw_295⟩ rfl hl.1 rfl (Nat.le_of_ble_eq_true rfl) dX13_sight_41 ⟨(Nat.le_of_ble_eq_true rfl), (Nat.le_of_ble_eq_true rfl)⟩ (fun v30 H locs F G R S hpo hM hS => ?_)
      obtain ⟨hIF, hIG, hIR, hfr9, hrr9, hgr9, hpo31⟩ := hpo
      have hq_v30 := tk_rng v30
      have hFF := mz_fr (K := [0, 1]) (Fa := Fa) hfr9 hFF (by decide)
      have hRR := mz_fr (K := [2, 3]) (Fa := Ra) hrr9 (fun _ _ => rfl) (by decide)
      have hGG := mz_fr (K := []) (Fa := Ga) hgr9 (fun _ _ => rfl) (by decide)
      have hf2 := (hfr9 0 (by decide)).trans hf2
      exact mz_iret (v := v30) hx hb hr rfl hlocks ⟨hIF, hIG, hIR, hFF, hRR, hGG, (by omega), (by omega)⟩ hM hS dX13_sight_44
    · have hc29 : ¬ (v21.toInt = 0) := fun h9 => c9 ((fi_eq rfl (show (0 : Int32).toInt = 0 by decide)).mpr h9)
      have hwk_33 : 0 ≤ w20.toInt ∧ w20.toInt ≤ 1 := by omega
      refine lv_iload hx hb dX13_sight_28 (lv_at hl 5 rfl) ?_
      obtain ⟨w34, e_w34, h_w34⟩ : ∃ z : Int64, p5.toInt64 = z ∧ z.toInt = p5.toInt := ⟨_, rfl, fl_w _⟩
      refine lv_i2l (v := w34) hx hb dX13_sight_30 e_w34 ?_
      refine lv_lconst (v := 0) hx hb dX13_sight_31 (by decide) ?_
      refine lv_lconst (v := 1) hx hb dX13_sight_32 (by decide) ?_
      have hk_0 : (0 : Int64).toInt = 0 := by decide
      have hk_1 : (1 : Int64).toInt = 1 := by decide
      refine mz_Sj (As := [.long w34, .long 0, .long 1]) (rest := []) ⟨hx, hb, hml, hown, hts⟩ hK hM hS (k_X13_in l D cy ld ad am hD _ _ _ _ w34 0 1) ⟨callB_of 3 hts (wl_in mw_292) rfl rfl rfl (htl _ mw_5) (htl _ mw_290) hd_yX13_in ⟨(Nat.le_of_ble_eq_true rfl), (Nat.le_of_ble_eq_true rfl)⟩, htl _ mw_291⟩ rfl hl.1 rfl (Nat.le_of_ble_eq_true rfl) dX13_sight_33 ⟨(Nat.le_of_ble_eq_true rfl), (Nat.le_of_ble_eq_true rfl)⟩ (fun v35 H locs hpo hM hS => ?_)
      obtain ⟨hpo36, hpo37, hpo38, hpo39, hpo40, hpo41⟩ := hpo
      have hq_v35 := tk_rng v35
      refine lv_if_ne (tgt := 45) hx hb dX13_sight_36 (by decide) (fun c9 => ?_) (fun c9 => ?_)
      · have hc43 : ¬ (v35.toInt = 0) := fun h9 => c9 ((fi_eq rfl (show (0 : Int32).toInt = 0 by decide)).mpr h9)
        have hwk_44 : 0 ≤ w34.toInt ∧ w34.toInt ≤ 1 := by omega
        refine lv_aload_n hx hb dX13_sight_45 rfl (lv_at hl 0 rfl) ?_
        refine lv_iload_n hx hb dX13_sight_46 rfl (lv_at hl 1 rfl) ?_
        refine mz_Vj (As := [.int p1]) (rest := []) ⟨hx, hb, hml, hown, hts⟩ hK hM hS (k_X13_isVerse l D cy ld ad am hD _ _ _ _ p1 (hIF.weak) hIG hIR) ⟨callB_of 1 hts (wl_in mw_360) rfl rfl rfl (htl _ mw_5) (htl _ mw_357) hd_yX13_isVerse ⟨(Nat.le_of_ble_eq_true rfl), (Nat.le_of_ble_eq_true rfl)⟩, htl _ mw_358, htl _ mw_359⟩ rfl hl.1 rfl (Nat.le_of_ble_eq_true rfl) dX13_sight_47 ⟨(Nat.le_of_ble_eq_true rfl), (Nat.le_of_ble_eq_true rfl)⟩ (fun v45 H locs hpo hM hS => ?_)
        obtain ⟨hpo46, hpo47, hpo48, hpo49, hpo50⟩ := hpo
        have hq_v45 := tk_rng v45
        refine lv_if_eq (tgt := 61) hx hb dX13_sight_50 (by decide) (fun c9 => ?_) (fun c9 => ?_)
        · have hc52 : v45.toInt = 0 := (fi_eq rfl (show (0 : Int32).toInt = 0 by decide)).mp c9
          refine lv_aload_n hx hb dX13_sight_61 rfl (lv_at hl 0 rfl) ?_
          refine lv_bipush (v := (-2)) hx hb dX13_sight_62 (by decide) ?_
          have hk_m2 : ((-2) : Int32).toInt = (-2) := by decide
          refine mz_Vi (As := [.int (-2)]) (rest := []) ⟨hx, hb, hml, hown, hts⟩ hK hM hS (k_X13_tell l D cy ld ad am hD _ _ _ _ (-2) hIF hIG hIR (by omega) (by omega)) ⟨callB_of 1 hts (wl_in mw_296) rfl rfl rfl (htl _ mw_5) (htl _ mw_293) hd_yX13_tell ⟨(Nat.le_of_ble_eq_true rfl), (Nat.le_of_ble_eq_true rfl)⟩, htl _ mw_294, htl _ mw_295⟩ rfl hl.1 rfl (Nat.le_of_ble_eq_true rfl) dX13_sight_64 ⟨(Nat.le_of_ble_eq_true rfl), (Nat.le_of_ble_eq_true rfl)⟩ (fun v53 H locs F G R S hpo hM hS => ?_)
          obtain ⟨hIF, hIG, hIR, hfr9, hrr9, hgr9, hpo54⟩ := hpo
          have hq_v53 := tk_rng v53
          have hFF := mz_fr (K := [0, 1]) (Fa := Fa) hfr9 hFF (by decide)
          have hRR := mz_fr (K := [2, 3]) (Fa := Ra) hrr9 (fun _ _ => rfl) (by decide)
          have hGG := mz_fr (K := []) (Fa := Ga) hgr9 (fun _ _ => rfl) (by decide)
          have hf2 := (hfr9 0 (by decide)).trans hf2
          exact mz_iret (v := v53) hx hb hr rfl hlocks ⟨hIF, hIG, hIR, hFF, hRR, hGG, (by omega), (by omega)⟩ hM hS dX13_sight_67
        · have hc52 : ¬ (v45.toInt = 0) := fun h9 => c9 ((fi_eq rfl (show (0 : Int32).toInt = 0 by decide)).mpr h9)
          have hwk_56 : 0 ≤ p1.toInt ∧ p1.toInt ≤ 9 := by omega
          refine lv_aload_n hx hb dX13_sight_53 rfl (lv_at hl 0 rfl) ?_
          refine lv_iload_n hx hb dX13_sight_54 rfl (lv_at hl 2 rfl) ?_
          refine mz_Vj (As := [.int p2]) (rest := []) ⟨hx, hb, hml, hown, hts⟩ hK hM hS (k_X13_isSinger l D cy ld ad am hD _ _ _ _ p2 (hIF.weak) hIG hIR) ⟨callB_of 1 hts (wl_in mw_320) rfl rfl rfl (htl _ mw_5) (htl _ mw_317) hd_yX13_isSinger ⟨(Nat.le_of_ble_eq_true rfl), (Nat.le_of_ble_eq_true rfl)⟩, htl _ mw_318, htl _ mw_319⟩ rfl hl.1 rfl (Nat.le_of_ble_eq_true rfl) dX13_sight_55 ⟨(Nat.le_of_ble_eq_true rfl), (Nat.le_of_ble_eq_true rfl)⟩ (fun v57 H locs hpo hM hS => ?_)
          obtain ⟨hpo58, hpo59, hpo60, hpo61, hpo62⟩ := hpo
          have hq_v57 := tk_rng v57
          refine lv_if_ne (tgt := 68) hx hb dX13_sight_58 (by decide) (fun c9 => ?_) (fun c9 => ?_)
          · have hc64 : ¬ (v57.toInt = 0) := fun h9 => c9 ((fi_eq rfl (show (0 : Int32).toInt = 0 by decide)).mpr h9)
            have hwk_65 : 0 ≤ p2.toInt ∧ p2.toInt ≤ 7 := by omega
            refine lv_aload_n hx hb dX13_sight_68 rfl (lv_at hl 0 rfl) ?_
            refine mz_getR hx hb htl hown hK hM 3 (Nat.le_of_ble_eq_true rfl) (Nat.le_of_ble_eq_true rfl) (htl _ mw_188) (fun _ h9 => h9) dX13_sight_69 ?_
            refine lv_iconst (v := 3) hx hb dX13_sight_72 (by decide) ?_
            refine mz_iald hx hb hK hM 3 (Nat.le_of_ble_eq_true rfl) rfl (nn := 5560) rfl (I := 3) (by decide) (by decide) (by decide) dX13_sight_73 (fun v67 hf66 => ?_)
            have hf66 : Ra 3 3 = v67 := hf66
            have hq_v67 := tk_rng v67
            have hr_v67 : 0 ≤ v67.toInt ∧ v67.toInt ≤ 8 := by have h9 := mz_r3c 3 (hIR.at 3) hf66 (by decide); unfold mE at h9; omega
            refine lv_istore (lv' := [(6, .int v67), (0, .ref am), (1, .int p1), (2, .int p2), (3, .int p3), (4, .int p4), (5, .int p5)]) hx hb dX13_sight_74 hl (by decide) rfl (fun ls hl => ?_)
            refine lv_iload hx hb dX13_sight_76 (lv_at hl 0 rfl) ?_
            refine lv_bipush (v := 8) hx hb dX13_sight_78 (by decide) ?_
            refine lv_icmp_ne (tgt := 90) hx hb dX13_sight_80 (by decide) (fun c9 => ?_) (fun c9 => ?_)
            · have hc68 : ¬ (v67.toInt = 8) := fun h9 => c9 ((fi_eq rfl (show (8 : Int32).toInt = 8 by decide)).mpr h9)
              refine lv_bipush (v := 116) hx hb dX13_sight_90 (by decide) ?_
              refine lv_iconst (v := 5) hx hb dX13_sight_92 (by decide) ?_
              refine lv_iload hx hb dX13_sight_93 (lv_at hl 0 rfl) ?_
              refine lv_imul hx hb dX13_sight_95 ?_
              refine tk_mul (show (5 : Int32).toInt = 5 by decide) rfl (by omega) (by omega) (fun v69 h_v69 => ?_)
              refine lv_iadd hx hb dX13_sight_96 ?_
              refine tk_add (show (116 : Int32).toInt = 116 by decide) rfl (by omega) (by omega) (fun v70 h_v70 => ?_)
              refine lv_istore (lv' := [(7, .int v70), (6, .int v67), (0, .ref am), (1, .int p1), (2, .int p2), (3, .int p3), (4, .int p4), (5, .int p5)]) hx hb dX13_sight_97 hl (by decide) rfl (fun ls hl => ?_)
              refine lv_aload_n hx hb dX13_sight_99 rfl (lv_at hl 2 rfl) ?_
              refine mz_getR hx hb htl hown hK hM 3 (Nat.le_of_ble_eq_true rfl) (Nat.le_of_ble_eq_true rfl) (htl _ mw_188) (fun _ h9 => h9) dX13_sight_100 ?_
              refine lv_iload hx hb dX13_sight_103 (lv_at hl 0 rfl) ?_
              refine lv_iload_n hx hb dX13_sight_105 rfl (lv_at hl 3 rfl) ?_
              refine mz_iast (x := p1) hx hb hK hD hM hS 3 (Nat.le_of_ble_eq_true rfl) rfl (nn := 5560) rfl rfl (by omega) (by omega) dX13_sight_106 (fun H locs R hM hS hw9 hj9 => ?_)
              have hIR := hIR.put hw9 hj9 (mz_r3 (hIR.at 3) (I := v70.toInt) rfl (by omega) (by omega) (fun h9 => by first | (cases h9; done) | omega) (by unfold mE; omega))
              have hRR := mz_frp (K := [2, 3]) (Fa := Ra) hj9 (fun _ _ => rfl) (by decide)
              have hf66 : R 3 3 = _ := (congrFun hw9 3).trans ((pk_un (fun h9 => by have h8 := tk_nat (i := v70) rfl (by omega); omega)).trans hf66)
              refine lv_aload_n hx hb dX13_sight_107 rfl (lv_at hl 2 rfl) ?_
              refine mz_getR hx hb htl hown hK hM 3 (Nat.le_of_ble_eq_true rfl) (Nat.le_of_ble_eq_true rfl) (htl _ mw_188) (fun _ h9 => h9) dX13_sight_108 ?_
              refine lv_iload hx hb dX13_sight_111 (lv_at hl 0 rfl) ?_
              refine lv_iconst (v := 1) hx hb dX13_sight_113 (by decide) ?_
              refine lv_iadd hx hb dX13_sight_114 ?_
              refine tk_add rfl (show (1 : Int32).toInt = 1 by decide) (by omega) (by omega) (fun v72 h_v72 => ?_)
              refine lv_iload_n hx hb dX13_sight_115 rfl (lv_at hl 4 rfl) ?_
              refine mz_iast (x := p2) hx hb hK hD hM hS 3 (Nat.le_of_ble_eq_true rfl) rfl (nn := 5560) rfl rfl (by omega) (by omega) dX13_sight_116 (fun H locs R hM hS hw9 hj9 => ?_)
              have hIR := hIR.put hw9 hj9 (mz_r3 (hIR.at 3) (I := v72.toInt) rfl (by omega) (by omega) (fun h9 => by first | (cases h9; done) | omega) (by unfold mE; omega))
              have hRR := mz_frp (K := [2, 3]) (Fa := Ra) hj9 hRR (by decide)
              have hf66 : R 3 3 = _ := (congrFun hw9 3).trans ((pk_un (fun h9 => by have h8 := tk_nat (i := v72) rfl (by omega); omega)).trans hf66)
              refine lv_aload_n hx hb dX13_sight_117 rfl (lv_at hl 2 rfl) ?_
              refine mz_getR hx hb htl hown hK hM 3 (Nat.le_of_ble_eq_true rfl) (Nat.le_of_ble_eq_true rfl) (htl _ mw_188) (fun _ h9 => h9) dX13_sight_118 ?_
              refine lv_iload hx hb dX13_sight_121 (lv_at hl 0 rfl) ?_
              refine lv_iconst (v := 2) hx hb dX13_sight_123 (by decide) ?_
              refine lv_iadd hx hb dX13_sight_124 ?_
              refine tk_add rfl (show (2 : Int32).toInt = 2 by decide) (by omega) (by omega) (fun v74 h_v74 => ?_)
              refine lv_iload_n hx hb dX13_sight_125 rfl (lv_at hl 5 rfl) ?_
              refine mz_iast (x := p3) hx hb hK hD hM hS 3 (Nat.le_of_ble_eq_true rfl) rfl (nn := 5560) rfl rfl (by omega) (by omega) dX13_sight_126 (fun H locs R hM hS hw9 hj9 => ?_)
              have hIR := hIR.put hw9 hj9 (mz_r3 (hIR.at 3) (I := v74.toInt) rfl (by omega) (by omega) (fun h9 => by first | (cases h9; done) | omega) (by unfold mE; omega))
              have hRR := mz_frp (K := [2, 3]) (Fa := Ra) hj9 hRR (by decide)
              have hf66 : R 3 3 = _ := (congrFun hw9 3).trans ((pk_un (fun h9 => by have h8 := tk_nat (i := v74) rfl (by omega); omega)).trans hf66)
              refine lv_aload_n hx hb dX13_sight_127 rfl (lv_at hl 2 rfl) ?_
              refine mz_getR hx hb htl hown hK hM 3 (Nat.le_of_ble_eq_true rfl) (Nat.le_of_ble_eq_true rfl) (htl _ mw_188) (fun _ h9 => h9) dX13_sight_128 ?_
              refine lv_iload hx hb dX13_sight_131 (lv_at hl 0 rfl) ?_
              refine lv_iconst (v := 3) hx hb dX13_sight_133 (by decide) ?_
              refine lv_iadd hx hb dX13_sight_134 ?_
              refine tk_add rfl (show (3 : Int32).toInt = 3 by decide) (by omega) (by omega) (fun v76 h_v76 => ?_)
              refine lv_iload hx hb dX13_sight_135 (lv_at hl 6 rfl) ?_
              refine mz_iast (x := p4) hx hb hK hD hM hS 3 (Nat.le_of_ble_eq_true rfl) rfl (nn := 5560) rfl rfl (by omega) (by omega) dX13_sight_137 (fun H locs R hM hS hw9 hj9 => ?_)
              have hIR := hIR.put hw9 hj9 (mz_r3 (hIR.at 3) (I := v76.toInt) rfl (by omega) (by omega) (fun h9 => by first | (cases h9; done) | omega) (by unfold mE; omega))
              have hRR := mz_frp (K := [2, 3]) (Fa := Ra) hj9 hRR (by decide)
              have hf66 : R 3 3 = _ := (congrFun hw9 3).trans ((pk_un (fun h9 => by have h8 := tk_nat (i := v76) rfl (by omega); omega)).trans hf66)
              refine lv_aload_n hx hb dX13_sight_138 rfl (lv_at hl 2 rfl) ?_
              refine mz_getR hx hb htl hown hK hM 3 (Nat.le_of_ble_eq_true rfl) (Nat.le_of_ble_eq_true rfl) (htl _ mw_188) (fun _ h9 => h9) dX13_sight_139 ?_
              refine lv_iload hx hb dX13_sight_142 (lv_at hl 0 rfl) ?_
              refine lv_iconst (v := 4) hx hb dX13_sight_144 (by decide) ?_
              refine lv_iadd hx hb dX13_sight_145 ?_
              refine tk_add rfl (show (4 : Int32).toInt = 4 by decide) (by omega) (by omega) (fun v78 h_v78 => ?_)
              refine lv_iload hx hb dX13_sight_146 (lv_at hl 7 rfl) ?_
              refine mz_iast (x := p5) hx hb hK hD hM hS 3 (Nat.le_of_ble_eq_true rfl) rfl (nn := 5560) rfl rfl (by omega) (by omega) dX13_sight_148 (fun H locs R hM hS hw9 hj9 => ?_)
              have hIR := hIR.put hw9 hj9 (mz_r3 (hIR.at 3) (I := v78.toInt) rfl (by omega) (by omega) (fun h9 => by first | (cases h9; done) | omega) (by unfold mE; omega))
              have hRR := mz_frp (K := [2, 3]) (Fa := Ra) hj9 hRR (by decide)
              have hf66 : R 3 3 = _ := (congrFun hw9 3).trans ((pk_un (fun h9 => by have h8 := tk_nat (i := v78) rfl (by omega); omega)).trans hf66)
              refine lv_aload_n hx hb dX13_sight_149 rfl (lv_at hl 2 rfl) ?_
              refine mz_getR hx hb htl hown hK hM 3 (Nat.le_of_ble_eq_true rfl) (Nat.le_of_ble_eq_true rfl) (htl _ mw_188) (fun _ h9 => h9) dX13_sight_150 ?_
              refine lv_iconst (v := 3) hx hb dX13_sight_153 (by decide) ?_
              refine lv_dup2_11 hx hb dX13_sight_154 rfl rfl ?_
              refine mz_iald hx hb hK hM 3 (Nat.le_of_ble_eq_true rfl) rfl (nn := 5560) rfl (I := 3) (by decide) (by decide) (by decide) dX13_sight_155 (fun v9 e9 => ?_)
              refine fx_ti (v := v67) (e9.symm.trans (show R 3 (3 : Int32).toNatClampNeg = _ from hf66)) ?_
              refine lv_iconst (v := 1) hx hb dX13_sight_156 (by decide) ?_
              refine lv_iadd hx hb dX13_sight_157 ?_
              refine tk_add rfl (show (1 : Int32).toInt = 1 by decide) (by omega) (by omega) (fun v80 h_v80 => ?_)
              have hk_3 : (3 : Int32).toInt = 3 := by decide
              refine mz_iast (x := v80) hx hb hK hD hM hS 3 (Nat.le_of_ble_eq_true rfl) rfl (nn := 5560) rfl (I := 3) (by decide) (by decide) (by decide) dX13_sight_158 (fun H locs R hM hS hw9 hj9 => ?_)
              have hIR := hIR.put hw9 hj9 (mz_r3 (hIR.at 3) (I := 3) (by decide) (by omega) (by omega) (fun h9 => by first | (cases h9; done) | omega) (by unfold mE; omega))
              have hRR := mz_frp (K := [2, 3]) (Fa := Ra) hj9 hRR (by decide)
              have hf82 : R 3 3 = v80 := (congrFun hw9 3).trans pk_us
              refine lv_aload_n hx hb dX13_sight_159 rfl (lv_at hl 2 rfl) ?_
              refine lv_iload hx hb dX13_sight_160 (lv_at hl 1 rfl) ?_
              refine lv_iconst (v := 1) hx hb dX13_sight_162 (by decide) ?_
              refine lv_iadd hx hb dX13_sight_163 ?_
              refine tk_add rfl (show (1 : Int32).toInt = 1 by decide) (by omega) (by omega) (fun v83 h_v83 => ?_)
              refine mz_Vi (As := [.int v83]) (rest := []) ⟨hx, hb, hml, hown, hts⟩ hK hM hS (k_X13_tell l D cy ld ad am hD _ _ _ _ v83 hIF hIG hIR (by omega) (by omega)) ⟨callB_of 1 hts (wl_in mw_296) rfl rfl rfl (htl _ mw_5) (htl _ mw_293) hd_yX13_tell ⟨(Nat.le_of_ble_eq_true rfl), (Nat.le_of_ble_eq_true rfl)⟩, htl _ mw_294, htl _ mw_295⟩ rfl hl.1 rfl (Nat.le_of_ble_eq_true rfl) dX13_sight_164 ⟨(Nat.le_of_ble_eq_true rfl), (Nat.le_of_ble_eq_true rfl)⟩ (fun v84 H locs F G R S hpo hM hS => ?_)
              obtain ⟨hIF, hIG, hIR, hfr9, hrr9, hgr9, hpo85⟩ := hpo
              have hq_v84 := tk_rng v84
              have hFF := mz_fr (K := [0, 1]) (Fa := Fa) hfr9 hFF (by decide)
              have hRR := mz_fr (K := [2, 3]) (Fa := Ra) hrr9 hRR (by decide)
              have hGG := mz_fr (K := []) (Fa := Ga) hgr9 (fun _ _ => rfl) (by decide)
              have hf2 := (hfr9 0 (by decide)).trans hf2
              have hf82 : R 3 3 = _ := (congrFun (hrr9 3 (by decide)) 3).trans hf82
              exact mz_iret (v := v84) hx hb hr rfl hlocks ⟨hIF, hIG, hIR, hFF, hRR, hGG, (by omega), (by omega)⟩ hM hS dX13_sight_167
            · have hc68 : v67.toInt = 8 := (fi_eq rfl (show (8 : Int32).toInt = 8 by decide)).mp c9
              refine lv_aload_n hx hb dX13_sight_83 rfl (lv_at hl 1 rfl) ?_
              refine lv_bipush (v := (-5)) hx hb dX13_sight_84 (by decide) ?_
              have hk_m5 : ((-5) : Int32).toInt = (-5) := by decide
              refine mz_Vi (As := [.int (-5)]) (rest := []) ⟨hx, hb, hml, hown, hts⟩ hK hM hS (k_X13_tell l D cy ld ad am hD _ _ _ _ (-5) hIF hIG hIR (by omega) (by omega)) ⟨callB_of 1 hts (wl_in mw_296) rfl rfl rfl (htl _ mw_5) (htl _ mw_293) hd_yX13_tell ⟨(Nat.le_of_ble_eq_true rfl), (Nat.le_of_ble_eq_true rfl)⟩, htl _ mw_294, htl _ mw_295⟩ rfl hl.1 rfl (Nat.le_of_ble_eq_true rfl) dX13_sight_86 ⟨(Nat.le_of_ble_eq_true rfl), (Nat.le_of_ble_eq_true rfl)⟩ (fun v87 H locs F G R S hpo hM hS => ?_)
              obtain ⟨hIF, hIG, hIR, hfr9, hrr9, hgr9, hpo88⟩ := hpo
              have hq_v87 := tk_rng v87
              have hFF := mz_fr (K := [0, 1]) (Fa := Fa) hfr9 hFF (by decide)
              have hRR := mz_fr (K := [2, 3]) (Fa := Ra) hrr9 (fun _ _ => rfl) (by decide)
              have hGG := mz_fr (K := []) (Fa := Ga) hgr9 (fun _ _ => rfl) (by decide)
              have hf2 := (hfr9 0 (by decide)).trans hf2
              have hf66 : R 3 3 = _ := (congrFun (hrr9 3 (by decide)) 3).trans hf66
              exact mz_iret (v := v87) hx hb hr rfl hlocks ⟨hIF, hIG, hIR, hFF, hRR, hGG, (by omega), (by omega)⟩ hM hS dX13_sight_89
          · have hc64 : v57.toInt = 0 := (fi_eq rfl (show (0 : Int32).toInt = 0 by decide)).mp c9
            refine lv_aload_n hx hb dX13_sight_61 rfl (lv_at hl 0 rfl) ?_
            refine lv_bipush (v := (-2)) hx hb dX13_sight_62 (by decide) ?_
            have hk_m2 : ((-2) : Int32).toInt = (-2) := by decide
            refine mz_Vi (As := [.int (-2)]) (rest := []) ⟨hx, hb, hml, hown, hts⟩ hK hM hS (k_X13_tell l D cy ld ad am hD _ _ _ _ (-2) hIF hIG hIR (by omega) (by omega)) ⟨callB_of 1 hts (wl_in mw_296) rfl rfl rfl (htl _ mw_5) (htl _ mw_293) hd_yX13_tell ⟨(Nat.le_of_ble_eq_true rfl), (Nat.le_of_ble_eq_true rfl)⟩, htl _ mw_294, htl _ mw_295⟩ rfl hl.1 rfl (Nat.le_of_ble_eq_true rfl) dX13_sight_64 ⟨(Nat.le_of_ble_eq_true rfl), (Nat.le_of_ble_eq_true rfl)⟩ (fun v90 H locs F G R S hpo hM hS => ?_)
            obtain ⟨hIF, hIG, hIR, hfr9, hrr9, hgr9, hpo91⟩ := hpo
            have hq_v90 := tk_rng v90
            have hFF := mz_fr (K := [0, 1]) (Fa := Fa) hfr9 hFF (by decide)
            have hRR := mz_fr (K := [2, 3]) (Fa := Ra) hrr9 (fun _ _ => rfl) (by decide)
            have hGG := mz_fr (K := []) (Fa := Ga) hgr9 (fun _ _ => rfl) (by decide)
            have hf2 := (hfr9 0 (by decide)).trans hf2
            exact mz_iret (v := v90) hx hb hr rfl hlocks ⟨hIF, hIG, hIR, hFF, hRR, hGG, (by omega), (by omega)⟩ hM hS dX13_sight_67
      · have hc43 : v35.toInt = 0 := (fi_eq rfl (show (0 : Int32).toInt = 0 by decide)).mp c9
        refine lv_aload_n hx hb dX13_sight_39 rfl (lv_at hl 0 rfl) ?_
        refine lv_iconst (v := (-1)) hx hb dX13_sight_40 (by decide) ?_
        have hk_m1 : ((-1) : Int32).toInt = (-1) := by decide
        refine mz_Vi (As := [.int (-1)]) (rest := []) ⟨hx, hb, hml, hown, hts⟩ hK hM hS (k_X13_tell l D cy ld ad am hD _ _ _ _ (-1) hIF hIG hIR (by omega) (by omega)) ⟨callB_of 1 hts (wl_in mw_296) rfl rfl rfl (htl _ mw_5) (htl _ mw_293) hd_yX13_tell ⟨(Nat.le_of_ble_eq_true rfl), (Nat.le_of_ble_eq_true rfl)⟩, htl _ mw_294, htl _ mw_295⟩ rfl hl.1 rfl (Nat.le_of_ble_eq_true rfl) dX13_sight_41 ⟨(Nat.le_of_ble_eq_true rfl), (Nat.le_of_ble_eq_true rfl)⟩ (fun v93 H locs F G R S hpo hM hS => ?_)
        obtain ⟨hIF, hIG, hIR, hfr9, hrr9, hgr9, hpo94⟩ := hpo
        have hq_v93 := tk_rng v93
        have hFF := mz_fr (K := [0, 1]) (Fa := Fa) hfr9 hFF (by decide)
        have hRR := mz_fr (K := [2, 3]) (Fa := Ra) hrr9 (fun _ _ => rfl) (by decide)
        have hGG := mz_fr (K := []) (Fa := Ga) hgr9 (fun _ _ => rfl) (by decide)
        have hf2 := (hfr9 0 (by decide)).trans hf2
        exact mz_iret (v := v93) hx hb hr rfl hlocks ⟨hIF, hIG, hIR, hFF, hRR, hGG, (by omega), (by omega)⟩ hM hS dX13_sight_44
