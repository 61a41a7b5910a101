theorem dX13_piece_0 : decode cX13_piece 0 = .ok (.aload_n 0, 1) := by decide +kernel
theorem dX13_piece_1 : decode cX13_piece 1 = .ok (.iconst 0, 1) := by decide +kernel
theorem dX13_piece_2 : decode cX13_piece 2 = .ok (.putfield 170, 3) := by decide +kernel
theorem dX13_piece_5 : decode cX13_piece 5 = .ok (.iload_n 1, 1) := by decide +kernel
theorem dX13_piece_6 : decode cX13_piece 6 = .ok (.i2l, 1) := by decide +kernel
theorem dX13_piece_7 : decode cX13_piece 7 = .ok (.lconst 1, 1) := by decide +kernel
theorem dX13_piece_8 : decode cX13_piece 8 = .ok (.ldc2_w 211, 3) := by decide +kernel
theorem dX13_piece_11 : decode cX13_piece 11 = .ok (.invokestatic 190, 3) := by decide +kernel
theorem dX13_piece_14 : decode cX13_piece 14 = .ok (.ifCond .eq 27, 3) := by decide +kernel
theorem dX13_piece_41 : decode cX13_piece 41 = .ok (.aload_n 0, 1) := by decide +kernel
theorem dX13_piece_42 : decode cX13_piece 42 = .ok (.iconst (-1), 1) := by decide +kernel
theorem dX13_piece_43 : decode cX13_piece 43 = .ok (.invokevirtual 183, 3) := by decide +kernel
theorem dX13_piece_46 : decode cX13_piece 46 = .ok (.ireturn, 1) := by decide +kernel
theorem dX13_piece_17 : decode cX13_piece 17 = .ok (.iload_n 2, 1) := by decide +kernel
theorem dX13_piece_18 : decode cX13_piece 18 = .ok (.i2l, 1) := by decide +kernel
theorem dX13_piece_19 : decode cX13_piece 19 = .ok (.lconst 0, 1) := by decide +kernel
theorem dX13_piece_20 : decode cX13_piece 20 = .ok (.ldc2_w 205, 3) := by decide +kernel
theorem dX13_piece_23 : decode cX13_piece 23 = .ok (.invokestatic 190, 3) := by decide +kernel
theorem dX13_piece_26 : decode cX13_piece 26 = .ok (.ifCond .eq 15, 3) := by decide +kernel
theorem dX13_piece_29 : decode cX13_piece 29 = .ok (.iload_n 3, 1) := by decide +kernel
theorem dX13_piece_30 : decode cX13_piece 30 = .ok (.i2l, 1) := by decide +kernel
theorem dX13_piece_31 : decode cX13_piece 31 = .ok (.lconst 1, 1) := by decide +kernel
theorem dX13_piece_32 : decode cX13_piece 32 = .ok (.ldc2_w 199, 3) := by decide +kernel
theorem dX13_piece_35 : decode cX13_piece 35 = .ok (.invokestatic 190, 3) := by decide +kernel
theorem dX13_piece_38 : decode cX13_piece 38 = .ok (.ifCond .ne 9, 3) := by decide +kernel
theorem dX13_piece_47 : decode cX13_piece 47 = .ok (.aload_n 0, 1) := by decide +kernel
theorem dX13_piece_48 : decode cX13_piece 48 = .ok (.getfield 13, 3) := by decide +kernel
theorem dX13_piece_51 : decode cX13_piece 51 = .ok (.iconst 2, 1) := by decide +kernel
theorem dX13_piece_52 : decode cX13_piece 52 = .ok (.iaload, 1) := by decide +kernel
theorem dX13_piece_53 : decode cX13_piece 53 = .ok (.istore 4, 2) := by decide +kernel
theorem dX13_piece_55 : decode cX13_piece 55 = .ok (.iload 4, 2) := by decide +kernel
theorem dX13_piece_57 : decode cX13_piece 57 = .ok (.bipush 10, 2) := by decide +kernel
theorem dX13_piece_59 : decode cX13_piece 59 = .ok (.if_icmp .ne 10, 3) := by decide +kernel
theorem dX13_piece_69 : decode cX13_piece 69 = .ok (.aload_n 0, 1) := by decide +kernel
theorem dX13_piece_70 : decode cX13_piece 70 = .ok (.getfield 13, 3) := by decide +kernel
theorem dX13_piece_73 : decode cX13_piece 73 = .ok (.bipush 78, 2) := by decide +kernel
theorem dX13_piece_75 : decode cX13_piece 75 = .ok (.iconst 3, 1) := by decide +kernel
theorem dX13_piece_76 : decode cX13_piece 76 = .ok (.iload 4, 2) := by decide +kernel
theorem dX13_piece_78 : decode cX13_piece 78 = .ok (.imul, 1) := by decide +kernel
theorem dX13_piece_79 : decode cX13_piece 79 = .ok (.iadd, 1) := by decide +kernel
theorem dX13_piece_80 : decode cX13_piece 80 = .ok (.iload_n 1, 1) := by decide +kernel
theorem dX13_piece_81 : decode cX13_piece 81 = .ok (.iastore, 1) := by decide +kernel
theorem dX13_piece_82 : decode cX13_piece 82 = .ok (.aload_n 0, 1) := by decide +kernel
theorem dX13_piece_83 : decode cX13_piece 83 = .ok (.getfield 13, 3) := by decide +kernel
theorem dX13_piece_86 : decode cX13_piece 86 = .ok (.bipush 78, 2) := by decide +kernel
theorem dX13_piece_88 : decode cX13_piece 88 = .ok (.iconst 3, 1) := by decide +kernel
theorem dX13_piece_89 : decode cX13_piece 89 = .ok (.iload 4, 2) := by decide +kernel
theorem dX13_piece_91 : decode cX13_piece 91 = .ok (.imul, 1) := by decide +kernel
theorem dX13_piece_92 : decode cX13_piece 92 = .ok (.iadd, 1) := by decide +kernel
theorem dX13_piece_93 : decode cX13_piece 93 = .ok (.iconst 1, 1) := by decide +kernel
theorem dX13_piece_94 : decode cX13_piece 94 = .ok (.iadd, 1) := by decide +kernel
theorem dX13_piece_95 : decode cX13_piece 95 = .ok (.iload_n 2, 1) := by decide +kernel
theorem dX13_piece_96 : decode cX13_piece 96 = .ok (.iastore, 1) := by decide +kernel
theorem dX13_piece_97 : decode cX13_piece 97 = .ok (.aload_n 0, 1) := by decide +kernel
theorem dX13_piece_98 : decode cX13_piece 98 = .ok (.getfield 13, 3) := by decide +kernel
theorem dX13_piece_101 : decode cX13_piece 101 = .ok (.bipush 78, 2) := by decide +kernel
theorem dX13_piece_103 : decode cX13_piece 103 = .ok (.iconst 3, 1) := by decide +kernel
theorem dX13_piece_104 : decode cX13_piece 104 = .ok (.iload 4, 2) := by decide +kernel
theorem dX13_piece_106 : decode cX13_piece 106 = .ok (.imul, 1) := by decide +kernel
theorem dX13_piece_107 : decode cX13_piece 107 = .ok (.iadd, 1) := by decide +kernel
theorem dX13_piece_108 : decode cX13_piece 108 = .ok (.iconst 2, 1) := by decide +kernel
theorem dX13_piece_109 : decode cX13_piece 109 = .ok (.iadd, 1) := by decide +kernel
theorem dX13_piece_110 : decode cX13_piece 110 = .ok (.iload_n 3, 1) := by decide +kernel
theorem dX13_piece_111 : decode cX13_piece 111 = .ok (.iastore, 1) := by decide +kernel
theorem dX13_piece_112 : decode cX13_piece 112 = .ok (.aload_n 0, 1) := by decide +kernel
theorem dX13_piece_113 : decode cX13_piece 113 = .ok (.getfield 13, 3) := by decide +kernel
theorem dX13_piece_116 : decode cX13_piece 116 = .ok (.iconst 2, 1) := by decide +kernel
theorem dX13_piece_117 : decode cX13_piece 117 = .ok (.dup2, 1) := by decide +kernel
theorem dX13_piece_118 : decode cX13_piece 118 = .ok (.iaload, 1) := by decide +kernel
theorem dX13_piece_119 : decode cX13_piece 119 = .ok (.iconst 1, 1) := by decide +kernel
theorem dX13_piece_120 : decode cX13_piece 120 = .ok (.iadd, 1) := by decide +kernel
theorem dX13_piece_121 : decode cX13_piece 121 = .ok (.iastore, 1) := by decide +kernel
theorem dX13_piece_122 : decode cX13_piece 122 = .ok (.aload_n 0, 1) := by decide +kernel
theorem dX13_piece_123 : decode cX13_piece 123 = .ok (.iload 4, 2) := by decide +kernel
theorem dX13_piece_125 : decode cX13_piece 125 = .ok (.invokevirtual 183, 3) := by decide +kernel
theorem dX13_piece_128 : decode cX13_piece 128 = .ok (.ireturn, 1) := by decide +kernel
theorem dX13_piece_62 : decode cX13_piece 62 = .ok (.aload_n 0, 1) := by decide +kernel
theorem dX13_piece_63 : decode cX13_piece 63 = .ok (.bipush (-5), 2) := by decide +kernel
theorem dX13_piece_65 : decode cX13_piece 65 = .ok (.invokevirtual 183, 3) := by decide +kernel
theorem dX13_piece_68 : decode cX13_piece 68 = .ok (.ireturn, 1) := by decide +kernel
set_option maxHeartbeats 4000000 in
set_option maxRecDepth 100000 in
theorem k_X13_piece (l : Launch) (D : va_G) (cy : Nat → ClassId) (ld ad : Nat → Nat) (am : Nat) (hD : mz_D ad am) (Fa : Nat → Int32) (Ga : Nat → Int64) (Ra : Nat → Nat → Int32) (Sa : Nat → Nat → Int64) (p1 : Int32) (p2 : Int32) (p3 : Int32) (hIF : mz_IF true Fa) (hIG : mz_IG Ga) (hIR : mz_IR [] true Ra) : Met l yX13_piece (wl yX13_piece cX13_piece 5 (some .int)) ({ frames := 4, cells := 0, slots := 0, locals := 210 }) (mz_p D cy ld ad am Fa Ga Ra Sa [.ref am, .int p1, .int p2, .int p3]) (mz_i D cy ad am (fun r F G R S => mz_IF true F ∧ mz_IG G ∧ mz_IR [] true R ∧ (∀ k : Nat, k ∉ ([0, 1] : List Nat) → F k = Fa k) ∧ (∀ k : Nat, k ∉ ([2, 3] : List Nat) → R k = Ra k) ∧ (∀ k : Nat, k ∉ ([] : List Nat) → G k = Ga k) ∧ (-5) ≤ r.toInt ∧ r.toInt ≤ 9)) 0 0 (mz_W ad am) := by
  refine mz_met (y := yX13_piece) (cc := cX13_piece) (maxL := 5) (ret := (some .int)) (av := [.ref am, .int p1, .int p2, .int p3]) _ (by decide) (Nat.le_of_ble_eq_true rfl) ?_
  intro p e s m args below meth c hx hb hr hml hts htl hown hlocks hK H locs hM hS ls hl
  have hown : s.vm.findClass RX13 = some m.cls := hown
  have hl : lv_has ls 5 [(0, .ref am), (1, .int p1), (2, .int p2), (3, .int p3)] := hl
  have hr_p1 := tk_rng p1
  have hr_p2 := tk_rng p2
  have hr_p3 := tk_rng p3
  refine lv_aload_n hx hb dX13_piece_0 rfl (lv_at hl 0 rfl) ?_
  refine lv_iconst (v := 0) hx hb dX13_piece_1 (by decide) ?_
  have hk_0 : (0 : Int32).toInt = 0 := by decide
  refine mz_putI (ty := .int) (x := 0) hx hb htl hown hK hD hM hS 0 (Nat.le_of_ble_eq_true rfl) rfl (htl _ mw_286) (fun _ h9 => h9) rfl (tyX13_ok 0 (by decide)) rfl rfl dX13_piece_2 (fun H locs F hM hS hf9 hj9 => ?_)
  have hIF := hIF.put hf9 hj9 (tk_rng _).1 (tk_rng _).2 (by decide)
  have hFF := mz_frp (K := [0, 1]) (Fa := Fa) hj9 (fun _ _ => rfl) (by decide)
  have hf2 := hf9
  refine lv_iload_n hx hb dX13_piece_5 rfl (lv_at hl 1 rfl) ?_
  obtain ⟨w3, e_w3, h_w3⟩ : ∃ z : Int64, p1.toInt64 = z ∧ z.toInt = p1.toInt := ⟨_, rfl, fl_w _⟩
  refine lv_i2l (v := w3) hx hb dX13_piece_6 e_w3 ?_
  refine lv_lconst (v := 1) hx hb dX13_piece_7 (by decide) ?_
  refine lv_ldc2 hx hb hown (htl _ mw_342) dX13_piece_8 ?_
  have hk_1 : (1 : Int64).toInt = 1 := by decide
  have hk_99 : (99 : Int64).toInt = 99 := by decide
  refine mz_Sj (As := [.long w3, .long 1, .long 99]) (rest := []) ⟨hx, hb, hml, hown, hts⟩ hK hM hS (k_X13_in l D cy ld ad am hD _ _ _ _ w3 1 99) ⟨callB_of 3 hts (wl_in mw_292) rfl rfl rfl (htl _ mw_5) (htl _ mw_290) hd_yX13_in ⟨(Nat.le_of_ble_eq_true rfl), (Nat.le_of_ble_eq_true rfl)⟩, htl _ mw_291⟩ rfl hl.1 rfl (Nat.le_of_ble_eq_true rfl) dX13_piece_11 ⟨(Nat.le_of_ble_eq_true rfl), (Nat.le_of_ble_eq_true rfl)⟩ (fun v4 H locs hpo hM hS => ?_)
  obtain ⟨hpo5, hpo6, hpo10, hpo11, hpo12, hpo13⟩ := hpo
  have hq_v4 := tk_rng v4
  refine lv_if_eq (tgt := 41) hx hb dX13_piece_14 (by decide) (fun c9 => ?_) (fun c9 => ?_)
  · have hc15 : v4.toInt = 0 := (fi_eq rfl (show (0 : Int32).toInt = 0 by decide)).mp c9
    refine lv_aload_n hx hb dX13_piece_41 rfl (lv_at hl 0 rfl) ?_
    refine lv_iconst (v := (-1)) hx hb dX13_piece_42 (by decide) ?_
    have hk_m1 : ((-1) : Int32).toInt = (-1) := by decide
    refine mz_Vi (As := [.int (-1)]) (rest := []) ⟨hx, hb, hml, hown, hts⟩ hK hM hS (k_X13_tell l D cy ld ad am hD _ _ _ _ (-1) hIF hIG hIR (by omega) (by omega)) ⟨callB_of 1 hts (wl_in mw_296) rfl rfl rfl (htl _ mw_5) (htl _ mw_293) hd_yX13_tell ⟨(Nat.le_of_ble_eq_true rfl), (Nat.le_of_ble_eq_true rfl)⟩, htl _ mw_294, htl _ mw_295⟩ rfl hl.1 rfl (Nat.le_of_ble_eq_true rfl) dX13_piece_43 ⟨(Nat.le_of_ble_eq_true rfl), (Nat.le_of_ble_eq_true rfl)⟩ (fun v16 H locs F G R S hpo hM hS => ?_)
    obtain ⟨hIF, hIG, hIR, hfr9, hrr9, hgr9, hpo17⟩ := hpo
    have hq_v16 := tk_rng v16
    have hFF := mz_fr (K := [0, 1]) (Fa := Fa) hfr9 hFF (by decide)
    have hRR := mz_fr (K := [2, 3]) (Fa := Ra) hrr9 (fun _ _ => rfl) (by decide)
    have hGG := mz_fr (K := []) (Fa := Ga) hgr9 (fun _ _ => rfl) (by decide)
    have hf2 := (hfr9 0 (by decide)).trans hf2
    exact mz_iret (v := v16) hx hb hr rfl hlocks ⟨hIF, hIG, hIR, hFF, hRR, hGG, (by omega), (by omega)⟩ hM hS dX13_piece_46
  · have hc15 : ¬ (v4.toInt = 0) := fun h9 => c9 ((fi_eq rfl (show (0 : Int32).toInt = 0 by decide)).mpr h9)
    have hwk_19 : 1 ≤ w3.toInt ∧ w3.toInt ≤ 99 := by omega
    refine lv_iload_n hx hb dX13_piece_17 rfl (lv_at hl 2 rfl) ?_
    obtain ⟨w20, e_w20, h_w20⟩ : ∃ z : Int64, p2.toInt64 = z ∧ z.toInt = p2.toInt := ⟨_, rfl, fl_w _⟩
    refine lv_i2l (v := w20) hx hb dX13_piece_18 e_w20 ?_
    refine lv_lconst (v := 0) hx hb dX13_piece_19 (by decide) ?_
    refine lv_ldc2 hx hb hown (htl _ mw_316) dX13_piece_20 ?_
    have hk_0 : (0 : Int64).toInt = 0 := by decide
    have hk_4 : (4 : Int64).toInt = 4 := by decide
    refine mz_Sj (As := [.long w20, .long 0, .long 4]) (rest := []) ⟨hx, hb, hml, hown, hts⟩ hK hM hS (k_X13_in l D cy ld ad am hD _ _ _ _ w20 0 4) ⟨callB_of 3 hts (wl_in mw_292) rfl rfl rfl (htl _ mw_5) (htl _ mw_290) hd_yX13_in ⟨(Nat.le_of_ble_eq_true rfl), (Nat.le_of_ble_eq_true rfl)⟩, htl _ mw_291⟩ rfl hl.1 rfl (Nat.le_of_ble_eq_true rfl) dX13_piece_23 ⟨(Nat.le_of_ble_eq_true rfl), (Nat.le_of_ble_eq_true rfl)⟩ (fun v21 H locs hpo hM hS => ?_)
    obtain ⟨hpo22, hpo23, hpo24, hpo25, hpo26, hpo27⟩ := hpo
    have hq_v21 := tk_rng v21
    refine lv_if_eq (tgt := 41) hx hb dX13_piece_26 (by decide) (fun c9 => ?_) (fun c9 => ?_)
    · have hc29 : v21.toInt = 0 := (fi_eq rfl (show (0 : Int32).toInt = 0 by decide)).mp c9
      refine lv_aload_n hx hb dX13_piece_41 rfl (lv_at hl 0 rfl) ?_
      refine lv_iconst (v := (-1)) hx hb dX13_piece_42 (by decide) ?_
      have hk_m1 : ((-1) : Int32).toInt = (-1) := by decide
      refine mz_Vi (As := [.int (-1)]) (rest := []) ⟨hx, hb, hml, hown, hts⟩ hK hM hS (k_X13_tell l D cy ld ad am hD _ _ _ _ (-1) hIF hIG hIR (by omega) (by omega)) ⟨callB_of 1 hts (wl_in mw_296) rfl rfl rfl (htl _ mw_5) (htl _ mw_293) hd_yX13_tell ⟨(Nat.le_of_ble_eq_true rfl), (Nat.le_of_ble_eq_true rfl)⟩, htl _ mw_294, htl _ mw_295⟩ rfl hl.1 rfl (Nat.le_of_ble_eq_true rfl) dX13_piece_43 ⟨(Nat.le_of_ble_eq_true rfl), (Nat.le_of_ble_eq_true rfl)⟩ (fun v30 H locs F G R S hpo hM hS => ?_)
      obtain ⟨hIF, hIG, hIR, hfr9, hrr9, hgr9, hpo31⟩ := hpo
      have hq_v30 := tk_rng v30
      have hFF := mz_fr (K := [0, 1]) (Fa := Fa) hfr9 hFF (by decide)
      have hRR := mz_fr (K := [2, 3]) (Fa := Ra) hrr9 (fun _ _ => rfl) (by decide)
      have hGG := mz_fr (K := []) (Fa := Ga) hgr9 (fun _ _ => rfl) (by decide)
      have hf2 := (hfr9 0 (by decide)).trans hf2
      exact mz_iret (v := v30) hx hb hr rfl hlocks ⟨hIF, hIG, hIR, hFF, hRR, hGG, (by omega), (by omega)⟩ hM hS dX13_piece_46
    · have hc29 : ¬ (v21.toInt = 0) := fun h9 => c9 ((fi_eq rfl (show (0 : Int32).toInt = 0 by decide)).mpr h9)
      have hwk_33 : 0 ≤ w20.toInt ∧ w20.toInt ≤ 4 := by omega
      refine lv_iload_n hx hb dX13_piece_29 rfl (lv_at hl 3 rfl) ?_
      obtain ⟨w34, e_w34, h_w34⟩ : ∃ z : Int64, p3.toInt64 = z ∧ z.toInt = p3.toInt := ⟨_, rfl, fl_w _⟩
      refine lv_i2l (v := w34) hx hb dX13_piece_30 e_w34 ?_
      refine lv_lconst (v := 1) hx hb dX13_piece_31 (by decide) ?_
      refine lv_ldc2 hx hb hown (htl _ mw_288) dX13_piece_32 ?_
      have hk_1 : (1 : Int64).toInt = 1 := by decide
      have hk_9 : (9 : Int64).toInt = 9 := by decide
      refine mz_Sj (As := [.long w34, .long 1, .long 9]) (rest := []) ⟨hx, hb, hml, hown, hts⟩ hK hM hS (k_X13_in l D cy ld ad am hD _ _ _ _ w34 1 9) ⟨callB_of 3 hts (wl_in mw_292) rfl rfl rfl (htl _ mw_5) (htl _ mw_290) hd_yX13_in ⟨(Nat.le_of_ble_eq_true rfl), (Nat.le_of_ble_eq_true rfl)⟩, htl _ mw_291⟩ rfl hl.1 rfl (Nat.le_of_ble_eq_true rfl) dX13_piece_35 ⟨(Nat.le_of_ble_eq_true rfl), (Nat.le_of_ble_eq_true rfl)⟩ (fun v35 H locs hpo hM hS => ?_)
      obtain ⟨hpo36, hpo37, hpo38, hpo39, hpo40, hpo41⟩ := hpo
      have hq_v35 := tk_rng v35
      refine lv_if_ne (tgt := 47) hx hb dX13_piece_38 (by decide) (fun c9 => ?_) (fun c9 => ?_)
      · have hc43 : ¬ (v35.toInt = 0) := fun h9 => c9 ((fi_eq rfl (show (0 : Int32).toInt = 0 by decide)).mpr h9)
        have hwk_44 : 1 ≤ w34.toInt ∧ w34.toInt ≤ 9 := by omega
        refine lv_aload_n hx hb dX13_piece_47 rfl (lv_at hl 0 rfl) ?_
        refine mz_getR hx hb htl hown hK hM 3 (Nat.le_of_ble_eq_true rfl) (Nat.le_of_ble_eq_true rfl) (htl _ mw_188) (fun _ h9 => h9) dX13_piece_48 ?_
        refine lv_iconst (v := 2) hx hb dX13_piece_51 (by decide) ?_
        refine mz_iald hx hb hK hM 3 (Nat.le_of_ble_eq_true rfl) rfl (nn := 5560) rfl (I := 2) (by decide) (by decide) (by decide) dX13_piece_52 (fun v46 hf45 => ?_)
        have hf45 : Ra 3 2 = v46 := hf45
        have hq_v46 := tk_rng v46
        have hr_v46 : 0 ≤ v46.toInt ∧ v46.toInt ≤ 10 := by have h9 := mz_r3c 2 (hIR.at 3) hf45 (by decide); unfold mE at h9; omega
        refine lv_istore (lv' := [(4, .int v46), (0, .ref am), (1, .int p1), (2, .int p2), (3, .int p3)]) hx hb dX13_piece_53 hl (by decide) rfl (fun ls hl => ?_)
        refine lv_iload hx hb dX13_piece_55 (lv_at hl 0 rfl) ?_
        refine lv_bipush (v := 10) hx hb dX13_piece_57 (by decide) ?_
        refine lv_icmp_ne (tgt := 69) hx hb dX13_piece_59 (by decide) (fun c9 => ?_) (fun c9 => ?_)
        · have hc47 : ¬ (v46.toInt = 10) := fun h9 => c9 ((fi_eq rfl (show (10 : Int32).toInt = 10 by decide)).mpr h9)
          refine lv_aload_n hx hb dX13_piece_69 rfl (lv_at hl 1 rfl) ?_
          refine mz_getR hx hb htl hown hK hM 3 (Nat.le_of_ble_eq_true rfl) (Nat.le_of_ble_eq_true rfl) (htl _ mw_188) (fun _ h9 => h9) dX13_piece_70 ?_
          refine lv_bipush (v := 78) hx hb dX13_piece_73 (by decide) ?_
          refine lv_iconst (v := 3) hx hb dX13_piece_75 (by decide) ?_
          refine lv_iload hx hb dX13_piece_76 (lv_at hl 0 rfl) ?_
          refine lv_imul hx hb dX13_piece_78 ?_
          refine tk_mul (show (3 : Int32).toInt = 3 by decide) rfl (by omega) (by omega) (fun v48 h_v48 => ?_)
          refine lv_iadd hx hb dX13_piece_79 ?_
          refine tk_add (show (78 : Int32).toInt = 78 by decide) rfl (by omega) (by omega) (fun v49 h_v49 => ?_)
          refine lv_iload_n hx hb dX13_piece_80 rfl (lv_at hl 2 rfl) ?_
          refine mz_iast (x := p1) hx hb hK hD hM hS 3 (Nat.le_of_ble_eq_true rfl) rfl (nn := 5560) rfl rfl (by omega) (by omega) dX13_piece_81 (fun H locs R hM hS hw9 hj9 => ?_)
          have hIR := hIR.put hw9 hj9 (mz_r3 (hIR.at 3) (I := v49.toInt) rfl (by omega) (by omega) (fun h9 => by first | (cases h9; done) | omega) (by unfold mE; omega))
          have hRR := mz_frp (K := [2, 3]) (Fa := Ra) hj9 (fun _ _ => rfl) (by decide)
          have hf45 : R 3 2 = _ := (congrFun hw9 2).trans ((pk_un (fun h9 => by have h8 := tk_nat (i := v49) rfl (by omega); omega)).trans hf45)
          refine lv_aload_n hx hb dX13_piece_82 rfl (lv_at hl 1 rfl) ?_
          refine mz_getR hx hb htl hown hK hM 3 (Nat.le_of_ble_eq_true rfl) (Nat.le_of_ble_eq_true rfl) (htl _ mw_188) (fun _ h9 => h9) dX13_piece_83 ?_
          refine lv_bipush (v := 78) hx hb dX13_piece_86 (by decide) ?_
          refine lv_iconst (v := 3) hx hb dX13_piece_88 (by decide) ?_
          refine lv_iload hx hb dX13_piece_89 (lv_at hl 0 rfl) ?_
          refine lv_imul hx hb dX13_piece_91 ?_
          refine tk_mul (show (3 : Int32).toInt = 3 by decide) rfl (by omega) (by omega) (fun v51 h_v51 => ?_)
          refine lv_iadd hx hb dX13_piece_92 ?_
          refine tk_add (show (78 : Int32).toInt = 78 by decide) rfl (by omega) (by omega) (fun v52 h_v52 => ?_)
          refine lv_iconst (v := 1) hx hb dX13_piece_93 (by decide) ?_
          refine lv_iadd hx hb dX13_piece_94 ?_
          refine tk_add rfl (show (1 : Int32).toInt = 1 by decide) (by omega) (by omega) (fun v53 h_v53 => ?_)
          refine lv_iload_n hx hb dX13_piece_95 rfl (lv_at hl 3 rfl) ?_
          refine mz_iast (x := p2) hx hb hK hD hM hS 3 (Nat.le_of_ble_eq_true rfl) rfl (nn := 5560) rfl rfl (by omega) (by omega) dX13_piece_96 (fun H locs R hM hS hw9 hj9 => ?_)
          have hIR := hIR.put hw9 hj9 (mz_r3 (hIR.at 3) (I := v53.toInt) rfl (by omega) (by omega) (fun h9 => by first | (cases h9; done) | omega) (by unfold mE; omega))
          have hRR := mz_frp (K := [2, 3]) (Fa := Ra) hj9 hRR (by decide)
          have hf45 : R 3 2 = _ := (congrFun hw9 2).trans ((pk_un (fun h9 => by have h8 := tk_nat (i := v53) rfl (by omega); omega)).trans hf45)
          refine lv_aload_n hx hb dX13_piece_97 rfl (lv_at hl 1 rfl) ?_
          refine mz_getR hx hb htl hown hK hM 3 (Nat.le_of_ble_eq_true rfl) (Nat.le_of_ble_eq_true rfl) (htl _ mw_188) (fun _ h9 => h9) dX13_piece_98 ?_
          refine lv_bipush (v := 78) hx hb dX13_piece_101 (by decide) ?_
          refine lv_iconst (v := 3) hx hb dX13_piece_103 (by decide) ?_
          refine lv_iload hx hb dX13_piece_104 (lv_at hl 0 rfl) ?_
          refine lv_imul hx hb dX13_piece_106 ?_
          refine tk_mul (show (3 : Int32).toInt = 3 by decide) rfl (by omega) (by omega) (fun v55 h_v55 => ?_)
          refine lv_iadd hx hb dX13_piece_107 ?_
          refine tk_add (show (78 : Int32).toInt = 78 by decide) rfl (by omega) (by omega) (fun v56 h_v56 => ?_)
          refine lv_iconst (v := 2) hx hb dX13_piece_108 (by decide) ?_
          refine lv_iadd hx hb dX13_piece_109 ?_
          refine tk_add rfl (show (2 : Int32).toInt = 2 by decide) (by omega) (by omega) (fun v57 h_v57 => ?_)
          refine lv_iload_n hx hb dX13_piece_110 rfl (lv_at hl 4 rfl) ?_
          refine mz_iast (x := p3) hx hb hK hD hM hS 3 (Nat.le_of_ble_eq_true rfl) rfl (nn := 5560) rfl rfl (by omega) (by omega) dX13_piece_111 (fun H locs R hM hS hw9 hj9 => ?_)
          have hIR := hIR.put hw9 hj9 (mz_r3 (hIR.at 3) (I := v57.toInt) rfl (by omega) (by omega) (fun h9 => by first | (cases h9; done) | omega) (by unfold mE; omega))
          have hRR := mz_frp (K := [2, 3]) (Fa := Ra) hj9 hRR (by decide)
          have hf45 : R 3 2 = _ := (congrFun hw9 2).trans ((pk_un (fun h9 => by have h8 := tk_nat (i := v57) rfl (by omega); omega)).trans hf45)
          refine lv_aload_n hx hb dX13_piece_112 rfl (lv_at hl 1 rfl) ?_
          refine mz_getR hx hb htl hown hK hM 3 (Nat.le_of_ble_eq_true rfl) (Nat.le_of_ble_eq_true rfl) (htl _ mw_188) (fun _ h9 => h9) dX13_piece_113 ?_
          refine lv_iconst (v := 2) hx hb dX13_piece_116 (by decide) ?_
          refine lv_dup2_11 hx hb dX13_piece_117 rfl rfl ?_
          refine mz_iald hx hb hK hM 3 (Nat.le_of_ble_eq_true rfl) rfl (nn := 5560) rfl (I := 2) (by decide) (by decide) (by decide) dX13_piece_118 (fun v9 e9 => ?_)
          refine fx_ti (v := v46) (e9.symm.trans (show R 3 (2 : Int32).toNatClampNeg = _ from hf45)) ?_
          refine lv_iconst (v := 1) hx hb dX13_piece_119 (by decide) ?_
          refine lv_iadd hx hb dX13_piece_120 ?_
          refine tk_add rfl (show (1 : Int32).toInt = 1 by decide) (by omega) (by omega) (fun v59 h_v59 => ?_)
          have hk_2 : (2 : Int32).toInt = 2 := by decide
          refine mz_iast (x := v59) hx hb hK hD hM hS 3 (Nat.le_of_ble_eq_true rfl) rfl (nn := 5560) rfl (I := 2) (by decide) (by decide) (by decide) dX13_piece_121 (fun H locs R hM hS hw9 hj9 => ?_)
          have hIR := hIR.put hw9 hj9 (mz_r3 (hIR.at 3) (I := 2) (by decide) (by omega) (by omega) (fun h9 => by first | (cases h9; done) | omega) (by unfold mE; omega))
          have hRR := mz_frp (K := [2, 3]) (Fa := Ra) hj9 hRR (by decide)
          have hf61 : R 3 2 = v59 := (congrFun hw9 2).trans pk_us
          refine lv_aload_n hx hb dX13_piece_122 rfl (lv_at hl 1 rfl) ?_
          refine lv_iload hx hb dX13_piece_123 (lv_at hl 0 rfl) ?_
          refine mz_Vi (As := [.int v46]) (rest := []) ⟨hx, hb, hml, hown, hts⟩ hK hM hS (k_X13_tell l D cy ld ad am hD _ _ _ _ v46 hIF hIG hIR (by omega) (by omega)) ⟨callB_of 1 hts (wl_in mw_296) rfl rfl rfl (htl _ mw_5) (htl _ mw_293) hd_yX13_tell ⟨(Nat.le_of_ble_eq_true rfl), (Nat.le_of_ble_eq_true rfl)⟩, htl _ mw_294, htl _ mw_295⟩ rfl hl.1 rfl (Nat.le_of_ble_eq_true rfl) dX13_piece_125 ⟨(Nat.le_of_ble_eq_true rfl), (Nat.le_of_ble_eq_true rfl)⟩ (fun v62 H locs F G R S hpo hM hS => ?_)
          obtain ⟨hIF, hIG, hIR, hfr9, hrr9, hgr9, hpo63⟩ := hpo
          have hq_v62 := tk_rng v62
          have hFF := mz_fr (K := [0, 1]) (Fa := Fa) hfr9 hFF (by decide)
          have hRR := mz_fr (K := [2, 3]) (Fa := Ra) hrr9 hRR (by decide)
          have hGG := mz_fr (K := []) (Fa := Ga) hgr9 (fun _ _ => rfl) (by decide)
          have hf2 := (hfr9 0 (by decide)).trans hf2
          have hf61 : R 3 2 = _ := (congrFun (hrr9 3 (by decide)) 2).trans hf61
          exact mz_iret (v := v62) hx hb hr rfl hlocks ⟨hIF, hIG, hIR, hFF, hRR, hGG, (by omega), (by omega)⟩ hM hS dX13_piece_128
        · have hc47 : v46.toInt = 10 := (fi_eq rfl (show (10 : Int32).toInt = 10 by decide)).mp c9
          refine lv_aload_n hx hb dX13_piece_62 rfl (lv_at hl 1 rfl) ?_
          refine lv_bipush (v := (-5)) hx hb dX13_piece_63 (by decide) ?_
          have hk_m5 : ((-5) : Int32).toInt = (-5) := by decide
          refine mz_Vi (As := [.int (-5)]) (rest := []) ⟨hx, hb, hml, hown, hts⟩ hK hM hS (k_X13_tell l D cy ld ad am hD _ _ _ _ (-5) hIF hIG hIR (by omega) (by omega)) ⟨callB_of 1 hts (wl_in mw_296) rfl rfl rfl (htl _ mw_5) (htl _ mw_293) hd_yX13_tell ⟨(Nat.le_of_ble_eq_true rfl), (Nat.le_of_ble_eq_true rfl)⟩, htl _ mw_294, htl _ mw_295⟩ rfl hl.1 rfl (Nat.le_of_ble_eq_true rfl) dX13_piece_65 ⟨(Nat.le_of_ble_eq_true rfl), (Nat.le_of_ble_eq_true rfl)⟩ (fun v65 H locs F G R S hpo hM hS => ?_)
          obtain ⟨hIF, hIG, hIR, hfr9, hrr9, hgr9, hpo66⟩ := hpo
          have hq_v65 := tk_rng v65
          have hFF := mz_fr (K := [0, 1]) (Fa := Fa) hfr9 hFF (by decide)
          have hRR := mz_fr (K := [2, 3]) (Fa := Ra) hrr9 (fun _ _ => rfl) (by decide)
          have hGG := mz_fr (K := []) (Fa := Ga) hgr9 (fun _ _ => rfl) (by decide)
          have hf2 := (hfr9 0 (by decide)).trans hf2
          have hf45 : R 3 2 = _ := (congrFun (hrr9 3 (by decide)) 2).trans hf45
          exact mz_iret (v := v65) hx hb hr rfl hlocks ⟨hIF, hIG, hIR, hFF, hRR, hGG, (by omega), (by omega)⟩ hM hS dX13_piece_68
      · have hc43 : v35.toInt = 0 := (fi_eq rfl (show (0 : Int32).toInt = 0 by decide)).mp c9
        refine lv_aload_n hx hb dX13_piece_41 rfl (lv_at hl 0 rfl) ?_
        refine lv_iconst (v := (-1)) hx hb dX13_piece_42 (by decide) ?_
        have hk_m1 : ((-1) : Int32).toInt = (-1) := by decide
        refine mz_Vi (As := [.int (-1)]) (rest := []) ⟨hx, hb, hml, hown, hts⟩ hK hM hS (k_X13_tell l D cy ld ad am hD _ _ _ _ (-1) hIF hIG hIR (by omega) (by omega)) ⟨callB_of 1 hts (wl_in mw_296) rfl rfl rfl (htl _ mw_5) (htl _ mw_293) hd_yX13_tell ⟨(Nat.le_of_ble_eq_true rfl), (Nat.le_of_ble_eq_true rfl)⟩, htl _ mw_294, htl _ mw_295⟩ rfl hl.1 rfl (Nat.le_of_ble_eq_true rfl) dX13_piece_43 ⟨(Nat.le_of_ble_eq_true rfl), (Nat.le_of_ble_eq_true rfl)⟩ (fun v68 H locs F G R S hpo hM hS => ?_)
        obtain ⟨hIF, hIG, hIR, hfr9, hrr9, hgr9, hpo69⟩ := hpo
        have hq_v68 := tk_rng v68
        have hFF := mz_fr (K := [0, 1]) (Fa := Fa) hfr9 hFF (by decide)
        have hRR := mz_fr (K := [2, 3]) (Fa := Ra) hrr9 (fun _ _ => rfl) (by decide)
        have hGG := mz_fr (K := []) (Fa := Ga) hgr9 (fun _ _ => rfl) (by decide)
        have hf2 := (hfr9 0 (by decide)).trans hf2
        exact mz_iret (v := v68) hx hb hr rfl hlocks ⟨hIF, hIG, hIR, hFF, hRR, hGG, (by omega), (by omega)⟩ hM hS dX13_piece_46
