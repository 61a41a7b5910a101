theorem dX13_singer_0 : decode cX13_singer 0 = .ok (.aload_n 0, 1) := by decide +kernel
theorem dX13_singer_1 : decode cX13_singer 1 = .ok (.iconst 0, 1) := by decide +kernel
theorem dX13_singer_2 : decode cX13_singer 2 = .ok (.putfield 170, 3) := by decide +kernel
theorem dX13_singer_5 : decode cX13_singer 5 = .ok (.iload_n 1, 1) := by decide +kernel
theorem dX13_singer_6 : decode cX13_singer 6 = .ok (.i2l, 1) := by decide +kernel
theorem dX13_singer_7 : decode cX13_singer 7 = .ok (.lconst 0, 1) := by decide +kernel
theorem dX13_singer_8 : decode cX13_singer 8 = .ok (.ldc2_w 197, 3) := by decide +kernel
theorem dX13_singer_11 : decode cX13_singer 11 = .ok (.invokestatic 190, 3) := by decide +kernel
theorem dX13_singer_14 : decode cX13_singer 14 = .ok (.ifCond .eq 25, 3) := by decide +kernel
theorem dX13_singer_39 : decode cX13_singer 39 = .ok (.aload_n 0, 1) := by decide +kernel
theorem dX13_singer_40 : decode cX13_singer 40 = .ok (.iconst (-1), 1) := by decide +kernel
theorem dX13_singer_41 : decode cX13_singer 41 = .ok (.invokevirtual 183, 3) := by decide +kernel
theorem dX13_singer_44 : decode cX13_singer 44 = .ok (.ireturn, 1) := by decide +kernel
theorem dX13_singer_17 : decode cX13_singer 17 = .ok (.iload_n 2, 1) := by decide +kernel
theorem dX13_singer_18 : decode cX13_singer 18 = .ok (.i2l, 1) := by decide +kernel
theorem dX13_singer_19 : decode cX13_singer 19 = .ok (.lconst 0, 1) := by decide +kernel
theorem dX13_singer_20 : decode cX13_singer 20 = .ok (.ldc2_w 199, 3) := by decide +kernel
theorem dX13_singer_23 : decode cX13_singer 23 = .ok (.invokestatic 190, 3) := by decide +kernel
theorem dX13_singer_26 : decode cX13_singer 26 = .ok (.ifCond .eq 13, 3) := by decide +kernel
theorem dX13_singer_29 : decode cX13_singer 29 = .ok (.iload_n 3, 1) := by decide +kernel
theorem dX13_singer_30 : decode cX13_singer 30 = .ok (.i2l, 1) := by decide +kernel
theorem dX13_singer_31 : decode cX13_singer 31 = .ok (.lconst 0, 1) := by decide +kernel
theorem dX13_singer_32 : decode cX13_singer 32 = .ok (.lconst 1, 1) := by decide +kernel
theorem dX13_singer_33 : decode cX13_singer 33 = .ok (.invokestatic 190, 3) := by decide +kernel
theorem dX13_singer_36 : decode cX13_singer 36 = .ok (.ifCond .ne 9, 3) := by decide +kernel
theorem dX13_singer_45 : decode cX13_singer 45 = .ok (.aload_n 0, 1) := by decide +kernel
theorem dX13_singer_46 : decode cX13_singer 46 = .ok (.getfield 13, 3) := by decide +kernel
theorem dX13_singer_49 : decode cX13_singer 49 = .ok (.iconst 0, 1) := by decide +kernel
theorem dX13_singer_50 : decode cX13_singer 50 = .ok (.iaload, 1) := by decide +kernel
theorem dX13_singer_51 : decode cX13_singer 51 = .ok (.istore 4, 2) := by decide +kernel
theorem dX13_singer_53 : decode cX13_singer 53 = .ok (.iload 4, 2) := by decide +kernel
theorem dX13_singer_55 : decode cX13_singer 55 = .ok (.bipush 8, 2) := by decide +kernel
theorem dX13_singer_57 : decode cX13_singer 57 = .ok (.if_icmp .ne 10, 3) := by decide +kernel
theorem dX13_singer_67 : decode cX13_singer 67 = .ok (.bipush 18, 2) := by decide +kernel
theorem dX13_singer_69 : decode cX13_singer 69 = .ok (.iconst 5, 1) := by decide +kernel
theorem dX13_singer_70 : decode cX13_singer 70 = .ok (.iload 4, 2) := by decide +kernel
theorem dX13_singer_72 : decode cX13_singer 72 = .ok (.imul, 1) := by decide +kernel
theorem dX13_singer_73 : decode cX13_singer 73 = .ok (.iadd, 1) := by decide +kernel
theorem dX13_singer_74 : decode cX13_singer 74 = .ok (.istore 5, 2) := by decide +kernel
theorem dX13_singer_76 : decode cX13_singer 76 = .ok (.aload_n 0, 1) := by decide +kernel
theorem dX13_singer_77 : decode cX13_singer 77 = .ok (.getfield 13, 3) := by decide +kernel
theorem dX13_singer_80 : decode cX13_singer 80 = .ok (.iload 5, 2) := by decide +kernel
theorem dX13_singer_82 : decode cX13_singer 82 = .ok (.iload_n 1, 1) := by decide +kernel
theorem dX13_singer_83 : decode cX13_singer 83 = .ok (.iastore, 1) := by decide +kernel
theorem dX13_singer_84 : decode cX13_singer 84 = .ok (.aload_n 0, 1) := by decide +kernel
theorem dX13_singer_85 : decode cX13_singer 85 = .ok (.getfield 13, 3) := by decide +kernel
theorem dX13_singer_88 : decode cX13_singer 88 = .ok (.iload 5, 2) := by decide +kernel
theorem dX13_singer_90 : decode cX13_singer 90 = .ok (.iconst 1, 1) := by decide +kernel
theorem dX13_singer_91 : decode cX13_singer 91 = .ok (.iadd, 1) := by decide +kernel
theorem dX13_singer_92 : decode cX13_singer 92 = .ok (.iload_n 2, 1) := by decide +kernel
theorem dX13_singer_93 : decode cX13_singer 93 = .ok (.iastore, 1) := by decide +kernel
theorem dX13_singer_94 : decode cX13_singer 94 = .ok (.aload_n 0, 1) := by decide +kernel
theorem dX13_singer_95 : decode cX13_singer 95 = .ok (.getfield 13, 3) := by decide +kernel
theorem dX13_singer_98 : decode cX13_singer 98 = .ok (.iload 5, 2) := by decide +kernel
theorem dX13_singer_100 : decode cX13_singer 100 = .ok (.iconst 2, 1) := by decide +kernel
theorem dX13_singer_101 : decode cX13_singer 101 = .ok (.iadd, 1) := by decide +kernel
theorem dX13_singer_102 : decode cX13_singer 102 = .ok (.iload_n 3, 1) := by decide +kernel
theorem dX13_singer_103 : decode cX13_singer 103 = .ok (.iastore, 1) := by decide +kernel
theorem dX13_singer_104 : decode cX13_singer 104 = .ok (.aload_n 0, 1) := by decide +kernel
theorem dX13_singer_105 : decode cX13_singer 105 = .ok (.getfield 13, 3) := by decide +kernel
theorem dX13_singer_108 : decode cX13_singer 108 = .ok (.iload 5, 2) := by decide +kernel
theorem dX13_singer_110 : decode cX13_singer 110 = .ok (.iconst 3, 1) := by decide +kernel
theorem dX13_singer_111 : decode cX13_singer 111 = .ok (.iadd, 1) := by decide +kernel
theorem dX13_singer_112 : decode cX13_singer 112 = .ok (.iconst 0, 1) := by decide +kernel
theorem dX13_singer_113 : decode cX13_singer 113 = .ok (.iastore, 1) := by decide +kernel
theorem dX13_singer_114 : decode cX13_singer 114 = .ok (.aload_n 0, 1) := by decide +kernel
theorem dX13_singer_115 : decode cX13_singer 115 = .ok (.getfield 13, 3) := by decide +kernel
theorem dX13_singer_118 : decode cX13_singer 118 = .ok (.iload 5, 2) := by decide +kernel
theorem dX13_singer_120 : decode cX13_singer 120 = .ok (.iconst 4, 1) := by decide +kernel
theorem dX13_singer_121 : decode cX13_singer 121 = .ok (.iadd, 1) := by decide +kernel
theorem dX13_singer_122 : decode cX13_singer 122 = .ok (.iconst 0, 1) := by decide +kernel
theorem dX13_singer_123 : decode cX13_singer 123 = .ok (.iastore, 1) := by decide +kernel
theorem dX13_singer_124 : decode cX13_singer 124 = .ok (.aload_n 0, 1) := by decide +kernel
theorem dX13_singer_125 : decode cX13_singer 125 = .ok (.getfield 13, 3) := by decide +kernel
theorem dX13_singer_128 : decode cX13_singer 128 = .ok (.bipush 108, 2) := by decide +kernel
theorem dX13_singer_130 : decode cX13_singer 130 = .ok (.iload 4, 2) := by decide +kernel
theorem dX13_singer_132 : decode cX13_singer 132 = .ok (.iadd, 1) := by decide +kernel
theorem dX13_singer_133 : decode cX13_singer 133 = .ok (.iconst 0, 1) := by decide +kernel
theorem dX13_singer_134 : decode cX13_singer 134 = .ok (.iastore, 1) := by decide +kernel
theorem dX13_singer_135 : decode cX13_singer 135 = .ok (.aload_n 0, 1) := by decide +kernel
theorem dX13_singer_136 : decode cX13_singer 136 = .ok (.getfield 13, 3) := by decide +kernel
theorem dX13_singer_139 : decode cX13_singer 139 = .ok (.iconst 0, 1) := by decide +kernel
theorem dX13_singer_140 : decode cX13_singer 140 = .ok (.dup2, 1) := by decide +kernel
theorem dX13_singer_141 : decode cX13_singer 141 = .ok (.iaload, 1) := by decide +kernel
theorem dX13_singer_142 : decode cX13_singer 142 = .ok (.iconst 1, 1) := by decide +kernel
theorem dX13_singer_143 : decode cX13_singer 143 = .ok (.iadd, 1) := by decide +kernel
theorem dX13_singer_144 : decode cX13_singer 144 = .ok (.iastore, 1) := by decide +kernel
theorem dX13_singer_145 : decode cX13_singer 145 = .ok (.aload_n 0, 1) := by decide +kernel
theorem dX13_singer_146 : decode cX13_singer 146 = .ok (.iconst 0, 1) := by decide +kernel
theorem dX13_singer_147 : decode cX13_singer 147 = .ok (.putfield 176, 3) := by decide +kernel
theorem dX13_singer_150 : decode cX13_singer 150 = .ok (.aload_n 0, 1) := by decide +kernel
theorem dX13_singer_151 : decode cX13_singer 151 = .ok (.iload 4, 2) := by decide +kernel
theorem dX13_singer_153 : decode cX13_singer 153 = .ok (.invokevirtual 183, 3) := by decide +kernel
theorem dX13_singer_156 : decode cX13_singer 156 = .ok (.ireturn, 1) := by decide +kernel
theorem dX13_singer_60 : decode cX13_singer 60 = .ok (.aload_n 0, 1) := by decide +kernel
theorem dX13_singer_61 : decode cX13_singer 61 = .ok (.bipush (-5), 2) := by decide +kernel
theorem dX13_singer_63 : decode cX13_singer 63 = .ok (.invokevirtual 183, 3) := by decide +kernel
theorem dX13_singer_66 : decode cX13_singer 66 = .ok (.ireturn, 1) := by decide +kernel
set_option maxHeartbeats 4000000 in
set_option maxRecDepth 100000 in
theorem k_X13_singer (l : Launch) (D : va_G) (cy : Nat → ClassId) (ld ad : Nat → Nat) (am : Nat) (hD : mz_D ad am) (Fa : Nat → Int32) (Ga : Nat → Int64) (Ra : Nat → Nat → Int32) (Sa : Nat → Nat → Int64) (p1 : Int32) (p2 : Int32) (p3 : Int32) (hIF : mz_IF true Fa) (hIG : mz_IG Ga) (hIR : mz_IR [] true Ra) : Met l yX13_singer (wl yX13_singer cX13_singer 6 (some .int)) ({ frames := 4, cells := 0, slots := 0, locals := 210 }) (mz_p D cy ld ad am Fa Ga Ra Sa [.ref am, .int p1, .int p2, .int p3]) (mz_i D cy ad am (fun r F G R S => mz_IF true F ∧ mz_IG G ∧ mz_IR [] true R ∧ (∀ k : Nat, k ∉ ([0, 1, 8] : List Nat) → F k = Fa k) ∧ (∀ k : Nat, k ∉ ([2, 3] : List Nat) → R k = Ra k) ∧ (∀ k : Nat, k ∉ ([] : List Nat) → G k = Ga k) ∧ (-5) ≤ r.toInt ∧ r.toInt ≤ 7)) 0 0 (mz_W ad am) := by
  refine mz_met (y := yX13_singer) (cc := cX13_singer) (maxL := 6) (ret := (some .int)) (av := [.ref am, .int p1, .int p2, .int p3]) _ (by decide) (Nat.le_of_ble_eq_true rfl) ?_
  intro p e s m args below meth c hx hb hr hml hts htl hown hlocks hK H locs hM hS ls hl
  have hown : s.vm.findClass RX13 = some m.cls := hown
  have hl : lv_has ls 6 [(0, .ref am), (1, .int p1), (2, .int p2), (3, .int p3)] := hl
  have hr_p1 := tk_rng p1
  have hr_p2 := tk_rng p2
  have hr_p3 := tk_rng p3
  refine lv_aload_n hx hb dX13_singer_0 rfl (lv_at hl 0 rfl) ?_
  refine lv_iconst (v := 0) hx hb dX13_singer_1 (by decide) ?_
  have hk_0 : (0 : Int32).toInt = 0 := by decide
  refine mz_putI (ty := .int) (x := 0) hx hb htl hown hK hD hM hS 0 (Nat.le_of_ble_eq_true rfl) rfl (htl _ mw_286) (fun _ h9 => h9) rfl (tyX13_ok 0 (by decide)) rfl rfl dX13_singer_2 (fun H locs F hM hS hf9 hj9 => ?_)
  have hIF := hIF.put hf9 hj9 (tk_rng _).1 (tk_rng _).2 (by decide)
  have hFF := mz_frp (K := [0, 1, 8]) (Fa := Fa) hj9 (fun _ _ => rfl) (by decide)
  have hf2 := hf9
  refine lv_iload_n hx hb dX13_singer_5 rfl (lv_at hl 1 rfl) ?_
  obtain ⟨w3, e_w3, h_w3⟩ : ∃ z : Int64, p1.toInt64 = z ∧ z.toInt = p1.toInt := ⟨_, rfl, fl_w _⟩
  refine lv_i2l (v := w3) hx hb dX13_singer_6 e_w3 ?_
  refine lv_lconst (v := 0) hx hb dX13_singer_7 (by decide) ?_
  refine lv_ldc2 hx hb hown (htl _ mw_287) dX13_singer_8 ?_
  have hk_0 : (0 : Int64).toInt = 0 := by decide
  have hk_999 : (999 : Int64).toInt = 999 := by decide
  refine mz_Sj (As := [.long w3, .long 0, .long 999]) (rest := []) ⟨hx, hb, hml, hown, hts⟩ hK hM hS (k_X13_in l D cy ld ad am hD _ _ _ _ w3 0 999) ⟨callB_of 3 hts (wl_in mw_292) rfl rfl rfl (htl _ mw_5) (htl _ mw_290) hd_yX13_in ⟨(Nat.le_of_ble_eq_true rfl), (Nat.le_of_ble_eq_true rfl)⟩, htl _ mw_291⟩ rfl hl.1 rfl (Nat.le_of_ble_eq_true rfl) dX13_singer_11 ⟨(Nat.le_of_ble_eq_true rfl), (Nat.le_of_ble_eq_true rfl)⟩ (fun v4 H locs hpo hM hS => ?_)
  obtain ⟨hpo5, hpo6, hpo10, hpo11, hpo12, hpo13⟩ := hpo
  have hq_v4 := tk_rng v4
  refine lv_if_eq (tgt := 39) hx hb dX13_singer_14 (by decide) (fun c9 => ?_) (fun c9 => ?_)
  · have hc15 : v4.toInt = 0 := (fi_eq rfl (show (0 : Int32).toInt = 0 by decide)).mp c9
    refine lv_aload_n hx hb dX13_singer_39 rfl (lv_at hl 0 rfl) ?_
    refine lv_iconst (v := (-1)) hx hb dX13_singer_40 (by decide) ?_
    have hk_m1 : ((-1) : Int32).toInt = (-1) := by decide
    refine mz_Vi (As := [.int (-1)]) (rest := []) ⟨hx, hb, hml, hown, hts⟩ hK hM hS (k_X13_tell l D cy ld ad am hD _ _ _ _ (-1) hIF hIG hIR (by omega) (by omega)) ⟨callB_of 1 hts (wl_in mw_296) rfl rfl rfl (htl _ mw_5) (htl _ mw_293) hd_yX13_tell ⟨(Nat.le_of_ble_eq_true rfl), (Nat.le_of_ble_eq_true rfl)⟩, htl _ mw_294, htl _ mw_295⟩ rfl hl.1 rfl (Nat.le_of_ble_eq_true rfl) dX13_singer_41 ⟨(Nat.le_of_ble_eq_true rfl), (Nat.le_of_ble_eq_true rfl)⟩ (fun v16 H locs F G R S hpo hM hS => ?_)
    obtain ⟨hIF, hIG, hIR, hfr9, hrr9, hgr9, hpo17⟩ := hpo
    have hq_v16 := tk_rng v16
    have hFF := mz_fr (K := [0, 1, 8]) (Fa := Fa) hfr9 hFF (by decide)
    have hRR := mz_fr (K := [2, 3]) (Fa := Ra) hrr9 (fun _ _ => rfl) (by decide)
    have hGG := mz_fr (K := []) (Fa := Ga) hgr9 (fun _ _ => rfl) (by decide)
    have hf2 := (hfr9 0 (by decide)).trans hf2
    exact mz_iret (v := v16) hx hb hr rfl hlocks ⟨hIF, hIG, hIR, hFF, hRR, hGG, (by omega), (by omega)⟩ hM hS dX13_singer_44
  · have hc15 : ¬ (v4.toInt = 0) := fun h9 => c9 ((fi_eq rfl (show (0 : Int32).toInt = 0 by decide)).mpr h9)
    have hwk_19 : 0 ≤ w3.toInt ∧ w3.toInt ≤ 999 := by omega
    refine lv_iload_n hx hb dX13_singer_17 rfl (lv_at hl 2 rfl) ?_
    obtain ⟨w20, e_w20, h_w20⟩ : ∃ z : Int64, p2.toInt64 = z ∧ z.toInt = p2.toInt := ⟨_, rfl, fl_w _⟩
    refine lv_i2l (v := w20) hx hb dX13_singer_18 e_w20 ?_
    refine lv_lconst (v := 0) hx hb dX13_singer_19 (by decide) ?_
    refine lv_ldc2 hx hb hown (htl _ mw_288) dX13_singer_20 ?_
    have hk_0 : (0 : Int64).toInt = 0 := by decide
    have hk_9 : (9 : Int64).toInt = 9 := by decide
    refine mz_Sj (As := [.long w20, .long 0, .long 9]) (rest := []) ⟨hx, hb, hml, hown, hts⟩ hK hM hS (k_X13_in l D cy ld ad am hD _ _ _ _ w20 0 9) ⟨callB_of 3 hts (wl_in mw_292) rfl rfl rfl (htl _ mw_5) (htl _ mw_290) hd_yX13_in ⟨(Nat.le_of_ble_eq_true rfl), (Nat.le_of_ble_eq_true rfl)⟩, htl _ mw_291⟩ rfl hl.1 rfl (Nat.le_of_ble_eq_true rfl) dX13_singer_23 ⟨(Nat.le_of_ble_eq_true rfl), (Nat.le_of_ble_eq_true rfl)⟩ (fun v21 H locs hpo hM hS => ?_)
    obtain ⟨hpo22, hpo23, hpo24, hpo25, hpo26, hpo27⟩ := hpo
    have hq_v21 := tk_rng v21
    refine lv_if_eq (tgt := 39) hx hb dX13_singer_26 (by decide) (fun c9 => ?_) (fun c9 => ?_)
    · have hc29 : v21.toInt = 0 := (fi_eq rfl (show (0 : Int32).toInt = 0 by decide)).mp c9
      refine lv_aload_n hx hb dX13_singer_39 rfl (lv_at hl 0 rfl) ?_
      refine lv_iconst (v := (-1)) hx hb dX13_singer_40 (by decide) ?_
      have hk_m1 : ((-1) : Int32).toInt = (-1) := by decide
      refine mz_Vi (As := [.int (-1)]) (rest := []) ⟨hx, hb, hml, hown, hts⟩ hK hM hS (k_X13_tell l D cy ld ad am hD _ _ _ _ (-1) hIF hIG hIR (by omega) (by omega)) ⟨callB_of 1 hts (wl_in mw_296) rfl rfl rfl (htl _ mw_5) (htl _ mw_293) hd_yX13_tell ⟨(Nat.le_of_ble_eq_true rfl), (Nat.le_of_ble_eq_true rfl)⟩, htl _ mw_294, htl _ mw_295⟩ rfl hl.1 rfl (Nat.le_of_ble_eq_true rfl) dX13_singer_41 ⟨(Nat.le_of_ble_eq_true rfl), (Nat.le_of_ble_eq_true rfl)⟩ (fun v30 H locs F G R S hpo hM hS => ?_)
      obtain ⟨hIF, hIG, hIR, hfr9, hrr9, hgr9, hpo31⟩ := hpo
      have hq_v30 := tk_rng v30
      have hFF := mz_fr (K := [0, 1, 8]) (Fa := Fa) hfr9 hFF (by decide)
      have hRR := mz_fr (K := [2, 3]) (Fa := Ra) hrr9 (fun _ _ => rfl) (by decide)
      have hGG := mz_fr (K := []) (Fa := Ga) hgr9 (fun _ _ => rfl) (by decide)
      have hf2 := (hfr9 0 (by decide)).trans hf2
      exact mz_iret (v := v30) hx hb hr rfl hlocks ⟨hIF, hIG, hIR, hFF, hRR, hGG, (by omega), (by omega)⟩ hM hS dX13_singer_44
    · have hc29 : ¬ (v21.toInt = 0) := fun h9 => c9 ((fi_eq rfl (show (0 : Int32).toInt = 0 by decide)).mpr h9)
      have hwk_33 : 0 ≤ w20.toInt ∧ w20.toInt ≤ 9 := by omega
      refine lv_iload_n hx hb dX13_singer_29 rfl (lv_at hl 3 rfl) ?_
      obtain ⟨w34, e_w34, h_w34⟩ : ∃ z : Int64, p3.toInt64 = z ∧ z.toInt = p3.toInt := ⟨_, rfl, fl_w _⟩
      refine lv_i2l (v := w34) hx hb dX13_singer_30 e_w34 ?_
      refine lv_lconst (v := 0) hx hb dX13_singer_31 (by decide) ?_
      refine lv_lconst (v := 1) hx hb dX13_singer_32 (by decide) ?_
      have hk_0 : (0 : Int64).toInt = 0 := by decide
      have hk_1 : (1 : Int64).toInt = 1 := by decide
      refine mz_Sj (As := [.long w34, .long 0, .long 1]) (rest := []) ⟨hx, hb, hml, hown, hts⟩ hK hM hS (k_X13_in l D cy ld ad am hD _ _ _ _ w34 0 1) ⟨callB_of 3 hts (wl_in mw_292) rfl rfl rfl (htl _ mw_5) (htl _ mw_290) hd_yX13_in ⟨(Nat.le_of_ble_eq_true rfl), (Nat.le_of_ble_eq_true rfl)⟩, htl _ mw_291⟩ rfl hl.1 rfl (Nat.le_of_ble_eq_true rfl) dX13_singer_33 ⟨(Nat.le_of_ble_eq_true rfl), (Nat.le_of_ble_eq_true rfl)⟩ (fun v35 H locs hpo hM hS => ?_)
      obtain ⟨hpo36, hpo37, hpo38, hpo39, hpo40, hpo41⟩ := hpo
      have hq_v35 := tk_rng v35
      refine lv_if_ne (tgt := 45) hx hb dX13_singer_36 (by decide) (fun c9 => ?_) (fun c9 => ?_)
      · have hc43 : ¬ (v35.toInt = 0) := fun h9 => c9 ((fi_eq rfl (show (0 : Int32).toInt = 0 by decide)).mpr h9)
        have hwk_44 : 0 ≤ w34.toInt ∧ w34.toInt ≤ 1 := by omega
        refine lv_aload_n hx hb dX13_singer_45 rfl (lv_at hl 0 rfl) ?_
        refine mz_getR hx hb htl hown hK hM 3 (Nat.le_of_ble_eq_true rfl) (Nat.le_of_ble_eq_true rfl) (htl _ mw_188) (fun _ h9 => h9) dX13_singer_46 ?_
        refine lv_iconst (v := 0) hx hb dX13_singer_49 (by decide) ?_
        refine mz_iald hx hb hK hM 3 (Nat.le_of_ble_eq_true rfl) rfl (nn := 5560) rfl (I := 0) (by decide) (by decide) (by decide) dX13_singer_50 (fun v46 hf45 => ?_)
        have hf45 : Ra 3 0 = v46 := hf45
        have hq_v46 := tk_rng v46
        have hr_v46 : 0 ≤ v46.toInt ∧ v46.toInt ≤ 8 := by have h9 := mz_r3c 0 (hIR.at 3) hf45 (by decide); unfold mE at h9; omega
        refine lv_istore (lv' := [(4, .int v46), (0, .ref am), (1, .int p1), (2, .int p2), (3, .int p3)]) hx hb dX13_singer_51 hl (by decide) rfl (fun ls hl => ?_)
        refine lv_iload hx hb dX13_singer_53 (lv_at hl 0 rfl) ?_
        refine lv_bipush (v := 8) hx hb dX13_singer_55 (by decide) ?_
        refine lv_icmp_ne (tgt := 67) hx hb dX13_singer_57 (by decide) (fun c9 => ?_) (fun c9 => ?_)
        · have hc47 : ¬ (v46.toInt = 8) := fun h9 => c9 ((fi_eq rfl (show (8 : Int32).toInt = 8 by decide)).mpr h9)
          refine lv_bipush (v := 18) hx hb dX13_singer_67 (by decide) ?_
          refine lv_iconst (v := 5) hx hb dX13_singer_69 (by decide) ?_
          refine lv_iload hx hb dX13_singer_70 (lv_at hl 0 rfl) ?_
          refine lv_imul hx hb dX13_singer_72 ?_
          refine tk_mul (show (5 : Int32).toInt = 5 by decide) rfl (by omega) (by omega) (fun v48 h_v48 => ?_)
          refine lv_iadd hx hb dX13_singer_73 ?_
          refine tk_add (show (18 : Int32).toInt = 18 by decide) rfl (by omega) (by omega) (fun v49 h_v49 => ?_)
          refine lv_istore (lv' := [(5, .int v49), (4, .int v46), (0, .ref am), (1, .int p1), (2, .int p2), (3, .int p3)]) hx hb dX13_singer_74 hl (by decide) rfl (fun ls hl => ?_)
          refine lv_aload_n hx hb dX13_singer_76 rfl (lv_at hl 2 rfl) ?_
          refine mz_getR hx hb htl hown hK hM 3 (Nat.le_of_ble_eq_true rfl) (Nat.le_of_ble_eq_true rfl) (htl _ mw_188) (fun _ h9 => h9) dX13_singer_77 ?_
          refine lv_iload hx hb dX13_singer_80 (lv_at hl 0 rfl) ?_
          refine lv_iload_n hx hb dX13_singer_82 rfl (lv_at hl 3 rfl) ?_
          refine mz_iast (x := p1) hx hb hK hD hM hS 3 (Nat.le_of_ble_eq_true rfl) rfl (nn := 5560) rfl rfl (by omega) (by omega) dX13_singer_83 (fun H locs R hM hS hw9 hj9 => ?_)
          have hIR := hIR.put hw9 hj9 (mz_r3 (hIR.at 3) (I := v49.toInt) rfl (by omega) (by omega) (fun h9 => by first | (cases h9; done) | omega) (by unfold mE; omega))
          have hRR := mz_frp (K := [2, 3]) (Fa := Ra) hj9 (fun _ _ => rfl) (by decide)
          have hf45 : R 3 0 = _ := (congrFun hw9 0).trans ((pk_un (fun h9 => by have h8 := tk_nat (i := v49) rfl (by omega); omega)).trans hf45)
          refine lv_aload_n hx hb dX13_singer_84 rfl (lv_at hl 2 rfl) ?_
          refine mz_getR hx hb htl hown hK hM 3 (Nat.le_of_ble_eq_true rfl) (Nat.le_of_ble_eq_true rfl) (htl _ mw_188) (fun _ h9 => h9) dX13_singer_85 ?_
          refine lv_iload hx hb dX13_singer_88 (lv_at hl 0 rfl) ?_
          refine lv_iconst (v := 1) hx hb dX13_singer_90 (by decide) ?_
          refine lv_iadd hx hb dX13_singer_91 ?_
          refine tk_add rfl (show (1 : Int32).toInt = 1 by decide) (by omega) (by omega) (fun v51 h_v51 => ?_)
          refine lv_iload_n hx hb dX13_singer_92 rfl (lv_at hl 4 rfl) ?_
          refine mz_iast (x := p2) hx hb hK hD hM hS 3 (Nat.le_of_ble_eq_true rfl) rfl (nn := 5560) rfl rfl (by omega) (by omega) dX13_singer_93 (fun H locs R hM hS hw9 hj9 => ?_)
          have hIR := hIR.put hw9 hj9 (mz_r3 (hIR.at 3) (I := v51.toInt) rfl (by omega) (by omega) (fun h9 => by first | (cases h9; done) | omega) (by unfold mE; omega))
          have hRR := mz_frp (K := [2, 3]) (Fa := Ra) hj9 hRR (by decide)
          have hf45 : R 3 0 = _ := (congrFun hw9 0).trans ((pk_un (fun h9 => by have h8 := tk_nat (i := v51) rfl (by omega); omega)).trans hf45)
          refine lv_aload_n hx hb dX13_singer_94 rfl (lv_at hl 2 rfl) ?_
          refine mz_getR hx hb htl hown hK hM 3 (Nat.le_of_ble_eq_true rfl) (Nat.le_of_ble_eq_true rfl) (htl _ mw_188) (fun _ h9 => h9) dX13_singer_95 ?_
          refine lv_iload hx hb dX13_singer_98 (lv_at hl 0 rfl) ?_
          refine lv_iconst (v := 2) hx hb dX13_singer_100 (by decide) ?_
          refine lv_iadd hx hb dX13_singer_101 ?_
          refine tk_add rfl (show (2 : Int32).toInt = 2 by decide) (by omega) (by omega) (fun v53 h_v53 => ?_)
          refine lv_iload_n hx hb dX13_singer_102 rfl (lv_at hl 5 rfl) ?_
          refine mz_iast (x := p3) hx hb hK hD hM hS 3 (Nat.le_of_ble_eq_true rfl) rfl (nn := 5560) rfl rfl (by omega) (by omega) dX13_singer_103 (fun H locs R hM hS hw9 hj9 => ?_)
          have hIR := hIR.put hw9 hj9 (mz_r3 (hIR.at 3) (I := v53.toInt) rfl (by omega) (by omega) (fun h9 => by first | (cases h9; done) | omega) (by unfold mE; omega))
          have hRR := mz_frp (K := [2, 3]) (Fa := Ra) hj9 hRR (by decide)
          have hf45 : R 3 0 = _ := (congrFun hw9 0).trans ((pk_un (fun h9 => by have h8 := tk_nat (i := v53) rfl (by omega); omega)).trans hf45)
          refine lv_aload_n hx hb dX13_singer_104 rfl (lv_at hl 2 rfl) ?_
          refine mz_getR hx hb htl hown hK hM 3 (Nat.le_of_ble_eq_true rfl) (Nat.le_of_ble_eq_true rfl) (htl _ mw_188) (fun _ h9 => h9) dX13_singer_105 ?_
          refine lv_iload hx hb dX13_singer_108 (lv_at hl 0 rfl) ?_
          refine lv_iconst (v := 3) hx hb dX13_singer_110 (by decide) ?_
          refine lv_iadd hx hb dX13_singer_111 ?_
          refine tk_add rfl (show (3 : Int32).toInt = 3 by decide) (by omega) (by omega) (fun v55 h_v55 => ?_)
          refine lv_iconst (v := 0) hx hb dX13_singer_112 (by decide) ?_
          have hk_0 : (0 : Int32).toInt = 0 := by decide
          refine mz_iast (x := 0) hx hb hK hD hM hS 3 (Nat.le_of_ble_eq_true rfl) rfl (nn := 5560) rfl rfl (by omega) (by omega) dX13_singer_113 (fun H locs R hM hS hw9 hj9 => ?_)
          have hIR := hIR.put hw9 hj9 (mz_r3 (hIR.at 3) (I := v55.toInt) rfl (by omega) (by omega) (fun h9 => by first | (cases h9; done) | omega) (by unfold mE; omega))
          have hRR := mz_frp (K := [2, 3]) (Fa := Ra) hj9 hRR (by decide)
          have hf45 : R 3 0 = _ := (congrFun hw9 0).trans ((pk_un (fun h9 => by have h8 := tk_nat (i := v55) rfl (by omega); omega)).trans hf45)
          refine lv_aload_n hx hb dX13_singer_114 rfl (lv_at hl 2 rfl) ?_
          refine mz_getR hx hb htl hown hK hM 3 (Nat.le_of_ble_eq_true rfl) (Nat.le_of_ble_eq_true rfl) (htl _ mw_188) (fun _ h9 => h9) dX13_singer_115 ?_
          refine lv_iload hx hb dX13_singer_118 (lv_at hl 0 rfl) ?_
          refine lv_iconst (v := 4) hx hb dX13_singer_120 (by decide) ?_
          refine lv_iadd hx hb dX13_singer_121 ?_
          refine tk_add rfl (show (4 : Int32).toInt = 4 by decide) (by omega) (by omega) (fun v57 h_v57 => ?_)
          refine lv_iconst (v := 0) hx hb dX13_singer_122 (by decide) ?_
          have hk_0 : (0 : Int32).toInt = 0 := by decide
          refine mz_iast (x := 0) hx hb hK hD hM hS 3 (Nat.le_of_ble_eq_true rfl) rfl (nn := 5560) rfl rfl (by omega) (by omega) dX13_singer_123 (fun H locs R hM hS hw9 hj9 => ?_)
          have hIR := hIR.put hw9 hj9 (mz_r3 (hIR.at 3) (I := v57.toInt) rfl (by omega) (by omega) (fun h9 => by first | (cases h9; done) | omega) (by unfold mE; omega))
          have hRR := mz_frp (K := [2, 3]) (Fa := Ra) hj9 hRR (by decide)
          have hf45 : R 3 0 = _ := (congrFun hw9 0).trans ((pk_un (fun h9 => by have h8 := tk_nat (i := v57) rfl (by omega); omega)).trans hf45)
          refine lv_aload_n hx hb dX13_singer_124 rfl (lv_at hl 2 rfl) ?_
          refine mz_getR hx hb htl hown hK hM 3 (Nat.le_of_ble_eq_true rfl) (Nat.le_of_ble_eq_true rfl) (htl _ mw_188) (fun _ h9 => h9) dX13_singer_125 ?_
          refine lv_bipush (v := 108) hx hb dX13_singer_128 (by decide) ?_
          refine lv_iload hx hb dX13_singer_130 (lv_at hl 1 rfl) ?_
          refine lv_iadd hx hb dX13_singer_132 ?_
          refine tk_add (show (108 : Int32).toInt = 108 by decide) rfl (by omega) (by omega) (fun v59 h_v59 => ?_)
          refine lv_iconst (v := 0) hx hb dX13_singer_133 (by decide) ?_
          have hk_0 : (0 : Int32).toInt = 0 := by decide
          refine mz_iast (x := 0) hx hb hK hD hM hS 3 (Nat.le_of_ble_eq_true rfl) rfl (nn := 5560) rfl rfl (by omega) (by omega) dX13_singer_134 (fun H locs R hM hS hw9 hj9 => ?_)
          have hIR := hIR.put hw9 hj9 (mz_r3 (hIR.at 3) (I := v59.toInt) rfl (by omega) (by omega) (fun h9 => by first | (cases h9; done) | omega) (by unfold mE; omega))
          have hRR := mz_frp (K := [2, 3]) (Fa := Ra) hj9 hRR (by decide)
          have hf45 : R 3 0 = _ := (congrFun hw9 0).trans ((pk_un (fun h9 => by have h8 := tk_nat (i := v59) rfl (by omega); omega)).trans hf45)
          refine lv_aload_n hx hb dX13_singer_135 rfl (lv_at hl 2 rfl) ?_
          refine mz_getR hx hb htl hown hK hM 3 (Nat.le_of_ble_eq_true rfl) (Nat.le_of_ble_eq_true rfl) (htl _ mw_188) (fun _ h9 => h9) dX13_singer_136 ?_
          refine lv_iconst (v := 0) hx hb dX13_singer_139 (by decide) ?_
          refine lv_dup2_11 hx hb dX13_singer_140 rfl rfl ?_
          refine mz_iald hx hb hK hM 3 (Nat.le_of_ble_eq_true rfl) rfl (nn := 5560) rfl (I := 0) (by decide) (by decide) (by decide) dX13_singer_141 (fun v9 e9 => ?_)
          refine fx_ti (v := v46) (e9.symm.trans (show R 3 (0 : Int32).toNatClampNeg = _ from hf45)) ?_
          refine lv_iconst (v := 1) hx hb dX13_singer_142 (by decide) ?_
          refine lv_iadd hx hb dX13_singer_143 ?_
          refine tk_add rfl (show (1 : Int32).toInt = 1 by decide) (by omega) (by omega) (fun v61 h_v61 => ?_)
          have hk_0 : (0 : Int32).toInt = 0 := by decide
          refine mz_iast (x := v61) hx hb hK hD hM hS 3 (Nat.le_of_ble_eq_true rfl) rfl (nn := 5560) rfl (I := 0) (by decide) (by decide) (by decide) dX13_singer_144 (fun H locs R hM hS hw9 hj9 => ?_)
          have hIR := hIR.put hw9 hj9 (mz_r3 (hIR.at 3) (I := 0) (by decide) (by omega) (by omega) (fun h9 => by first | (cases h9; done) | omega) (by unfold mE; omega))
          have hRR := mz_frp (K := [2, 3]) (Fa := Ra) hj9 hRR (by decide)
          have hf63 : R 3 0 = v61 := (congrFun hw9 0).trans pk_us
          refine lv_aload_n hx hb dX13_singer_145 rfl (lv_at hl 2 rfl) ?_
          refine lv_iconst (v := 0) hx hb dX13_singer_146 (by decide) ?_
          have hk_0 : (0 : Int32).toInt = 0 := by decide
          have hk_0 : (0 : Int32).toInt = 0 := by decide
          refine mz_putI (ty := .int) (x := 0) hx hb htl hown hK hD hM hS 8 (Nat.le_of_ble_eq_true rfl) rfl (htl _ mw_289) (fun _ h9 => h9) rfl (tyX13_ok 8 (by decide)) rfl rfl dX13_singer_147 (fun H locs F hM hS hf9 hj9 => ?_)
          have hIF := hIF.put hf9 hj9 (show 0 ≤ (0 : Int32).toInt by omega) (show (0 : Int32).toInt ≤ 16 by omega) (by decide)
          have hFF := mz_frp (K := [0, 1, 8]) (Fa := Fa) hj9 hFF (by decide)
          have hf2 := (hj9 0 (by decide)).trans hf2
          have hf65 := hf9
          refine lv_aload_n hx hb dX13_singer_150 rfl (lv_at hl 2 rfl) ?_
          refine lv_iload hx hb dX13_singer_151 (lv_at hl 1 rfl) ?_
          refine mz_Vi (As := [.int v46]) (rest := []) ⟨hx, hb, hml, hown, hts⟩ hK hM hS (k_X13_tell l D cy ld ad am hD _ _ _ _ v46 hIF hIG hIR (by omega) (by omega)) ⟨callB_of 1 hts (wl_in mw_296) rfl rfl rfl (htl _ mw_5) (htl _ mw_293) hd_yX13_tell ⟨(Nat.le_of_ble_eq_true rfl), (Nat.le_of_ble_eq_true rfl)⟩, htl _ mw_294, htl _ mw_295⟩ rfl hl.1 rfl (Nat.le_of_ble_eq_true rfl) dX13_singer_153 ⟨(Nat.le_of_ble_eq_true rfl), (Nat.le_of_ble_eq_true rfl)⟩ (fun v66 H locs F G R S hpo hM hS => ?_)
          obtain ⟨hIF, hIG, hIR, hfr9, hrr9, hgr9, hpo67⟩ := hpo
          have hq_v66 := tk_rng v66
          have hFF := mz_fr (K := [0, 1, 8]) (Fa := Fa) hfr9 hFF (by decide)
          have hRR := mz_fr (K := [2, 3]) (Fa := Ra) hrr9 hRR (by decide)
          have hGG := mz_fr (K := []) (Fa := Ga) hgr9 (fun _ _ => rfl) (by decide)
          have hf2 := (hfr9 0 (by decide)).trans hf2
          have hf63 : R 3 0 = _ := (congrFun (hrr9 3 (by decide)) 0).trans hf63
          have hf65 := (hfr9 8 (by decide)).trans hf65
          exact mz_iret (v := v66) hx hb hr rfl hlocks ⟨hIF, hIG, hIR, hFF, hRR, hGG, (by omega), (by omega)⟩ hM hS dX13_singer_156
        · have hc47 : v46.toInt = 8 := (fi_eq rfl (show (8 : Int32).toInt = 8 by decide)).mp c9
          refine lv_aload_n hx hb dX13_singer_60 rfl (lv_at hl 1 rfl) ?_
          refine lv_bipush (v := (-5)) hx hb dX13_singer_61 (by decide) ?_
          have hk_m5 : ((-5) : Int32).toInt = (-5) := by decide
          refine mz_Vi (As := [.int (-5)]) (rest := []) ⟨hx, hb, hml, hown, hts⟩ hK hM hS (k_X13_tell l D cy ld ad am hD _ _ _ _ (-5) hIF hIG hIR (by omega) (by omega)) ⟨callB_of 1 hts (wl_in mw_296) rfl rfl rfl (htl _ mw_5) (htl _ mw_293) hd_yX13_tell ⟨(Nat.le_of_ble_eq_true rfl), (Nat.le_of_ble_eq_true rfl)⟩, htl _ mw_294, htl _ mw_295⟩ rfl hl.1 rfl (Nat.le_of_ble_eq_true rfl) dX13_singer_63 ⟨(Nat.le_of_ble_eq_true rfl), (Nat.le_of_ble_eq_true rfl)⟩ (fun v69 H locs F G R S hpo hM hS => ?_)
          obtain ⟨hIF, hIG, hIR, hfr9, hrr9, hgr9, hpo70⟩ := hpo
          have hq_v69 := tk_rng v69
          have hFF := mz_fr (K := [0, 1, 8]) (Fa := Fa) hfr9 hFF (by decide)
          have hRR := mz_fr (K := [2, 3]) (Fa := Ra) hrr9 (fun _ _ => rfl) (by decide)
          have hGG := mz_fr (K := []) (Fa := Ga) hgr9 (fun _ _ => rfl) (by decide)
          have hf2 := (hfr9 0 (by decide)).trans hf2
          have hf45 : R 3 0 = _ := (congrFun (hrr9 3 (by decide)) 0).trans hf45
          exact mz_iret (v := v69) hx hb hr rfl hlocks ⟨hIF, hIG, hIR, hFF, hRR, hGG, (by omega), (by omega)⟩ hM hS dX13_singer_66
      · have hc43 : v35.toInt = 0 := (fi_eq rfl (show (0 : Int32).toInt = 0 by decide)).mp c9
        refine lv_aload_n hx hb dX13_singer_39 rfl (lv_at hl 0 rfl) ?_
        refine lv_iconst (v := (-1)) hx hb dX13_singer_40 (by decide) ?_
        have hk_m1 : ((-1) : Int32).toInt = (-1) := by decide
        refine mz_Vi (As := [.int (-1)]) (rest := []) ⟨hx, hb, hml, hown, hts⟩ hK hM hS (k_X13_tell l D cy ld ad am hD _ _ _ _ (-1) hIF hIG hIR (by omega) (by omega)) ⟨callB_of 1 hts (wl_in mw_296) rfl rfl rfl (htl _ mw_5) (htl _ mw_293) hd_yX13_tell ⟨(Nat.le_of_ble_eq_true rfl), (Nat.le_of_ble_eq_true rfl)⟩, htl _ mw_294, htl _ mw_295⟩ rfl hl.1 rfl (Nat.le_of_ble_eq_true rfl) dX13_singer_41 ⟨(Nat.le_of_ble_eq_true rfl), (Nat.le_of_ble_eq_true rfl)⟩ (fun v72 H locs F G R S hpo hM hS => ?_)
        obtain ⟨hIF, hIG, hIR, hfr9, hrr9, hgr9, hpo73⟩ := hpo
        have hq_v72 := tk_rng v72
        have hFF := mz_fr (K := [0, 1, 8]) (Fa := Fa) hfr9 hFF (by decide)
        have hRR := mz_fr (K := [2, 3]) (Fa := Ra) hrr9 (fun _ _ => rfl) (by decide)
        have hGG := mz_fr (K := []) (Fa := Ga) hgr9 (fun _ _ => rfl) (by decide)
        have hf2 := (hfr9 0 (by decide)).trans hf2
        exact mz_iret (v := v72) hx hb hr rfl hlocks ⟨hIF, hIG, hIR, hFF, hRR, hGG, (by omega), (by omega)⟩ hM hS dX13_singer_44
