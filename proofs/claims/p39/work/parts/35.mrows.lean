theorem dX13_hears_0 : decode cX13_hears 0 = .ok (.aload_n 0, 1) := by decide +kernel
theorem dX13_hears_1 : decode cX13_hears 1 = .ok (.iconst 0, 1) := by decide +kernel
theorem dX13_hears_2 : decode cX13_hears 2 = .ok (.putfield 170, 3) := by decide +kernel
theorem dX13_hears_5 : decode cX13_hears 5 = .ok (.iload_n 1, 1) := by decide +kernel
theorem dX13_hears_6 : decode cX13_hears 6 = .ok (.iload_n 2, 1) := by decide +kernel
theorem dX13_hears_7 : decode cX13_hears 7 = .ok (.if_icmp .eq 13, 3) := by decide +kernel
theorem dX13_hears_20 : decode cX13_hears 20 = .ok (.aload_n 0, 1) := by decide +kernel
theorem dX13_hears_21 : decode cX13_hears 21 = .ok (.iconst (-1), 1) := by decide +kernel
theorem dX13_hears_22 : decode cX13_hears 22 = .ok (.invokevirtual 183, 3) := by decide +kernel
theorem dX13_hears_25 : decode cX13_hears 25 = .ok (.ireturn, 1) := by decide +kernel
theorem dX13_hears_10 : decode cX13_hears 10 = .ok (.iload_n 3, 1) := by decide +kernel
theorem dX13_hears_11 : decode cX13_hears 11 = .ok (.i2l, 1) := by decide +kernel
theorem dX13_hears_12 : decode cX13_hears 12 = .ok (.lconst 0, 1) := by decide +kernel
theorem dX13_hears_13 : decode cX13_hears 13 = .ok (.lconst 1, 1) := by decide +kernel
theorem dX13_hears_14 : decode cX13_hears 14 = .ok (.invokestatic 190, 3) := by decide +kernel
theorem dX13_hears_17 : decode cX13_hears 17 = .ok (.ifCond .ne 9, 3) := by decide +kernel
theorem dX13_hears_26 : decode cX13_hears 26 = .ok (.aload_n 0, 1) := by decide +kernel
theorem dX13_hears_27 : decode cX13_hears 27 = .ok (.iload_n 1, 1) := by decide +kernel
theorem dX13_hears_28 : decode cX13_hears 28 = .ok (.invokevirtual 201, 3) := by decide +kernel
theorem dX13_hears_31 : decode cX13_hears 31 = .ok (.ifCond .eq 11, 3) := by decide +kernel
theorem dX13_hears_42 : decode cX13_hears 42 = .ok (.aload_n 0, 1) := by decide +kernel
theorem dX13_hears_43 : decode cX13_hears 43 = .ok (.bipush (-2), 2) := by decide +kernel
theorem dX13_hears_45 : decode cX13_hears 45 = .ok (.invokevirtual 183, 3) := by decide +kernel
theorem dX13_hears_48 : decode cX13_hears 48 = .ok (.ireturn, 1) := by decide +kernel
theorem dX13_hears_34 : decode cX13_hears 34 = .ok (.aload_n 0, 1) := by decide +kernel
theorem dX13_hears_35 : decode cX13_hears 35 = .ok (.iload_n 2, 1) := by decide +kernel
theorem dX13_hears_36 : decode cX13_hears 36 = .ok (.invokevirtual 201, 3) := by decide +kernel
theorem dX13_hears_39 : decode cX13_hears 39 = .ok (.ifCond .ne 10, 3) := by decide +kernel
theorem dX13_hears_49 : decode cX13_hears 49 = .ok (.aload_n 0, 1) := by decide +kernel
theorem dX13_hears_50 : decode cX13_hears 50 = .ok (.getfield 13, 3) := by decide +kernel
theorem dX13_hears_53 : decode cX13_hears 53 = .ok (.bipush 108, 2) := by decide +kernel
theorem dX13_hears_55 : decode cX13_hears 55 = .ok (.iload_n 1, 1) := by decide +kernel
theorem dX13_hears_56 : decode cX13_hears 56 = .ok (.iadd, 1) := by decide +kernel
theorem dX13_hears_57 : decode cX13_hears 57 = .ok (.iaload, 1) := by decide +kernel
theorem dX13_hears_58 : decode cX13_hears 58 = .ok (.iload_n 2, 1) := by decide +kernel
theorem dX13_hears_59 : decode cX13_hears 59 = .ok (.ishr, 1) := by decide +kernel
theorem dX13_hears_60 : decode cX13_hears 60 = .ok (.iconst 1, 1) := by decide +kernel
theorem dX13_hears_61 : decode cX13_hears 61 = .ok (.iand, 1) := by decide +kernel
theorem dX13_hears_62 : decode cX13_hears 62 = .ok (.istore 4, 2) := by decide +kernel
theorem dX13_hears_64 : decode cX13_hears 64 = .ok (.aload_n 0, 1) := by decide +kernel
theorem dX13_hears_65 : decode cX13_hears 65 = .ok (.getfield 13, 3) := by decide +kernel
theorem dX13_hears_68 : decode cX13_hears 68 = .ok (.bipush 108, 2) := by decide +kernel
theorem dX13_hears_70 : decode cX13_hears 70 = .ok (.iload_n 1, 1) := by decide +kernel
theorem dX13_hears_71 : decode cX13_hears 71 = .ok (.iadd, 1) := by decide +kernel
theorem dX13_hears_72 : decode cX13_hears 72 = .ok (.dup2, 1) := by decide +kernel
theorem dX13_hears_73 : decode cX13_hears 73 = .ok (.iaload, 1) := by decide +kernel
theorem dX13_hears_74 : decode cX13_hears 74 = .ok (.iload_n 3, 1) := by decide +kernel
theorem dX13_hears_75 : decode cX13_hears 75 = .ok (.iload 4, 2) := by decide +kernel
theorem dX13_hears_99 : decode cX13_hears 99 = .ok (.iadd, 1) := by decide +kernel
theorem dX13_hears_100 : decode cX13_hears 100 = .ok (.iastore, 1) := by decide +kernel
theorem dX13_hears_101 : decode cX13_hears 101 = .ok (.aload_n 0, 1) := by decide +kernel
theorem dX13_hears_102 : decode cX13_hears 102 = .ok (.iconst 0, 1) := by decide +kernel
theorem dX13_hears_103 : decode cX13_hears 103 = .ok (.putfield 173, 3) := by decide +kernel
theorem dX13_hears_106 : decode cX13_hears 106 = .ok (.iload 4, 2) := by decide +kernel
theorem dX13_hears_108 : decode cX13_hears 108 = .ok (.ireturn, 1) := by decide +kernel
theorem dX13_hears_77 : decode cX13_hears 77 = .ok (.if_icmp .ne 7, 3) := by decide +kernel
theorem dX13_hears_84 : decode cX13_hears 84 = .ok (.iload_n 3, 1) := by decide +kernel
theorem dX13_hears_85 : decode cX13_hears 85 = .ok (.iconst 1, 1) := by decide +kernel
theorem dX13_hears_86 : decode cX13_hears 86 = .ok (.if_icmp .ne 9, 3) := by decide +kernel
theorem dX13_hears_95 : decode cX13_hears 95 = .ok (.iconst 1, 1) := by decide +kernel
theorem dX13_hears_96 : decode cX13_hears 96 = .ok (.iload_n 2, 1) := by decide +kernel
theorem dX13_hears_97 : decode cX13_hears 97 = .ok (.ishl, 1) := by decide +kernel
theorem dX13_hears_98 : decode cX13_hears 98 = .ok (.ineg, 1) := by decide +kernel
theorem dX13_hears_89 : decode cX13_hears 89 = .ok (.iconst 1, 1) := by decide +kernel
theorem dX13_hears_90 : decode cX13_hears 90 = .ok (.iload_n 2, 1) := by decide +kernel
theorem dX13_hears_91 : decode cX13_hears 91 = .ok (.ishl, 1) := by decide +kernel
theorem dX13_hears_92 : decode cX13_hears 92 = .ok (.goto 7, 3) := by decide +kernel
theorem dX13_hears_80 : decode cX13_hears 80 = .ok (.iconst 0, 1) := by decide +kernel
theorem dX13_hears_81 : decode cX13_hears 81 = .ok (.goto 18, 3) := by decide +kernel
set_option maxHeartbeats 4000000 in
set_option maxRecDepth 100000 in
theorem k_X13_hears (l : Launch) (D : va_G) (cy : Nat → ClassId) (ld ad : Nat → Nat) (am : Nat) (hD : mz_D ad am) (Fa : Nat → Int32) (Ga : Nat → Int64) (Ra : Nat → Nat → Int32) (Sa : Nat → Nat → Int64) (p1 : Int32) (p2 : Int32) (p3 : Int32) (hIF : mz_IF true Fa) (hIG : mz_IG Ga) (hIR : mz_IR [] true Ra) : Met l yX13_hears (wl yX13_hears cX13_hears 5 (some .int)) ({ frames := 5, cells := 0, slots := 0, locals := 280 }) (mz_p D cy ld ad am Fa Ga Ra Sa [.ref am, .int p1, .int p2, .int p3]) (mz_i D cy ad am (fun r F G R S => mz_IF true F ∧ mz_IG G ∧ mz_IR [] true R ∧ (∀ k : Nat, k ∉ ([0, 1] : List Nat) → F k = Fa k) ∧ (∀ k : Nat, k ∉ ([2, 3] : List Nat) → R k = Ra k) ∧ (∀ k : Nat, k ∉ ([] : List Nat) → G k = Ga k) ∧ (-2) ≤ r.toInt ∧ r.toInt ≤ 1)) 0 0 (mz_W ad am) := by
  refine mz_met (y := yX13_hears) (cc := cX13_hears) (maxL := 5) (ret := (some .int)) (av := [.ref am, .int p1, .int p2, .int p3]) _ (by decide) (Nat.le_of_ble_eq_true rfl) ?_
  intro p e s m args below meth c hx hb hr hml hts htl hown hlocks hK H locs hM hS ls hl
  have hown : s.vm.findClass RX13 = some m.cls := hown
  have hl : lv_has ls 5 [(0, .ref am), (1, .int p1), (2, .int p2), (3, .int p3)] := hl
  have hr_p1 := tk_rng p1
  have hr_p2 := tk_rng p2
  have hr_p3 := tk_rng p3
  refine lv_aload_n hx hb dX13_hears_0 rfl (lv_at hl 0 rfl) ?_
  refine lv_iconst (v := 0) hx hb dX13_hears_1 (by decide) ?_
  have hk_0 : (0 : Int32).toInt = 0 := by decide
  refine mz_putI (ty := .int) (x := 0) hx hb htl hown hK hD hM hS 0 (Nat.le_of_ble_eq_true rfl) rfl (htl _ mw_286) (fun _ h9 => h9) rfl (tyX13_ok 0 (by decide)) rfl rfl dX13_hears_2 (fun H locs F hM hS hf9 hj9 => ?_)
  have hIF := hIF.put hf9 hj9 (tk_rng _).1 (tk_rng _).2 (by decide)
  have hFF := mz_frp (K := [0, 1]) (Fa := Fa) hj9 (fun _ _ => rfl) (by decide)
  have hf2 := hf9
  refine lv_iload_n hx hb dX13_hears_5 rfl (lv_at hl 1 rfl) ?_
  refine lv_iload_n hx hb dX13_hears_6 rfl (lv_at hl 2 rfl) ?_
  refine lv_icmp_eq (tgt := 20) hx hb dX13_hears_7 (by decide) (fun c9 => ?_) (fun c9 => ?_)
  · have hc3 : p1.toInt = p2.toInt := (fi_eq rfl rfl).mp c9
    refine lv_aload_n hx hb dX13_hears_20 rfl (lv_at hl 0 rfl) ?_
    refine lv_iconst (v := (-1)) hx hb dX13_hears_21 (by decide) ?_
    have hk_m1 : ((-1) : Int32).toInt = (-1) := by decide
    refine mz_Vi (As := [.int (-1)]) (rest := []) ⟨hx, hb, hml, hown, hts⟩ hK hM hS (k_X13_tell l D cy ld ad am hD _ _ _ _ (-1) hIF hIG hIR (by omega) (by omega)) ⟨callB_of 1 hts (wl_in mw_296) rfl rfl rfl (htl _ mw_5) (htl _ mw_293) hd_yX13_tell ⟨(Nat.le_of_ble_eq_true rfl), (Nat.le_of_ble_eq_true rfl)⟩, htl _ mw_294, htl _ mw_295⟩ rfl hl.1 rfl (Nat.le_of_ble_eq_true rfl) dX13_hears_22 ⟨(Nat.le_of_ble_eq_true rfl), (Nat.le_of_ble_eq_true rfl)⟩ (fun v4 H locs F G R S hpo hM hS => ?_)
    obtain ⟨hIF, hIG, hIR, hfr9, hrr9, hgr9, hpo5⟩ := hpo
    have hq_v4 := tk_rng v4
    have hFF := mz_fr (K := [0, 1]) (Fa := Fa) hfr9 hFF (by decide)
    have hRR := mz_fr (K := [2, 3]) (Fa := Ra) hrr9 (fun _ _ => rfl) (by decide)
    have hGG := mz_fr (K := []) (Fa := Ga) hgr9 (fun _ _ => rfl) (by decide)
    have hf2 := (hfr9 0 (by decide)).trans hf2
    exact mz_iret (v := v4) hx hb hr rfl hlocks ⟨hIF, hIG, hIR, hFF, hRR, hGG, (by omega), (by omega)⟩ hM hS dX13_hears_25
  · have hc3 : ¬ (p1.toInt = p2.toInt) := fun h9 => c9 ((fi_eq rfl rfl).mpr h9)
    refine lv_iload_n hx hb dX13_hears_10 rfl (lv_at hl 3 rfl) ?_
    obtain ⟨w7, e_w7, h_w7⟩ : ∃ z : Int64, p3.toInt64 = z ∧ z.toInt = p3.toInt := ⟨_, rfl, fl_w _⟩
    refine lv_i2l (v := w7) hx hb dX13_hears_11 e_w7 ?_
    refine lv_lconst (v := 0) hx hb dX13_hears_12 (by decide) ?_
    refine lv_lconst (v := 1) hx hb dX13_hears_13 (by decide) ?_
    have hk_0 : (0 : Int64).toInt = 0 := by decide
    have hk_1 : (1 : Int64).toInt = 1 := by decide
    refine mz_Sj (As := [.long w7, .long 0, .long 1]) (rest := []) ⟨hx, hb, hml, hown, hts⟩ hK hM hS (k_X13_in l D cy ld ad am hD _ _ _ _ w7 0 1) ⟨callB_of 3 hts (wl_in mw_292) rfl rfl rfl (htl _ mw_5) (htl _ mw_290) hd_yX13_in ⟨(Nat.le_of_ble_eq_true rfl), (Nat.le_of_ble_eq_true rfl)⟩, htl _ mw_291⟩ rfl hl.1 rfl (Nat.le_of_ble_eq_true rfl) dX13_hears_14 ⟨(Nat.le_of_ble_eq_true rfl), (Nat.le_of_ble_eq_true rfl)⟩ (fun v8 H locs hpo hM hS => ?_)
    obtain ⟨hpo9, hpo10, hpo11, hpo12, hpo13, hpo14⟩ := hpo
    have hq_v8 := tk_rng v8
    refine lv_if_ne (tgt := 26) hx hb dX13_hears_17 (by decide) (fun c9 => ?_) (fun c9 => ?_)
    · have hc16 : ¬ (v8.toInt = 0) := fun h9 => c9 ((fi_eq rfl (show (0 : Int32).toInt = 0 by decide)).mpr h9)
      refine lv_aload_n hx hb dX13_hears_26 rfl (lv_at hl 0 rfl) ?_
      refine lv_iload_n hx hb dX13_hears_27 rfl (lv_at hl 1 rfl) ?_
      refine mz_Vj (As := [.int p1]) (rest := []) ⟨hx, hb, hml, hown, hts⟩ hK hM hS (k_X13_isSinger l D cy ld ad am hD _ _ _ _ p1 hIF hIG hIR) ⟨callB_of 1 hts (wl_in mw_320) rfl rfl rfl (htl _ mw_5) (htl _ mw_317) hd_yX13_isSinger ⟨(Nat.le_of_ble_eq_true rfl), (Nat.le_of_ble_eq_true rfl)⟩, htl _ mw_318, htl _ mw_319⟩ rfl hl.1 rfl (Nat.le_of_ble_eq_true rfl) dX13_hears_28 ⟨(Nat.le_of_ble_eq_true rfl), (Nat.le_of_ble_eq_true rfl)⟩ (fun v17 H locs hpo hM hS => ?_)
      obtain ⟨hpo18, hpo19, hpo20, hpo21, hpo22⟩ := hpo
      have hq_v17 := tk_rng v17
      refine lv_if_eq (tgt := 42) hx hb dX13_hears_31 (by decide) (fun c9 => ?_) (fun c9 => ?_)
      · have hc24 : v17.toInt = 0 := (fi_eq rfl (show (0 : Int32).toInt = 0 by decide)).mp c9
        refine lv_aload_n hx hb dX13_hears_42 rfl (lv_at hl 0 rfl) ?_
        refine lv_bipush (v := (-2)) hx hb dX13_hears_43 (by decide) ?_
        have hk_m2 : ((-2) : Int32).toInt = (-2) := by decide
        refine mz_Vi (As := [.int (-2)]) (rest := []) ⟨hx, hb, hml, hown, hts⟩ hK hM hS (k_X13_tell l D cy ld ad am hD _ _ _ _ (-2) hIF hIG hIR (by omega) (by omega)) ⟨callB_of 1 hts (wl_in mw_296) rfl rfl rfl (htl _ mw_5) (htl _ mw_293) hd_yX13_tell ⟨(Nat.le_of_ble_eq_true rfl), (Nat.le_of_ble_eq_true rfl)⟩, htl _ mw_294, htl _ mw_295⟩ rfl hl.1 rfl (Nat.le_of_ble_eq_true rfl) dX13_hears_45 ⟨(Nat.le_of_ble_eq_true rfl), (Nat.le_of_ble_eq_true rfl)⟩ (fun v25 H locs F G R S hpo hM hS => ?_)
        obtain ⟨hIF, hIG, hIR, hfr9, hrr9, hgr9, hpo26⟩ := hpo
        have hq_v25 := tk_rng v25
        have hFF := mz_fr (K := [0, 1]) (Fa := Fa) hfr9 hFF (by decide)
        have hRR := mz_fr (K := [2, 3]) (Fa := Ra) hrr9 (fun _ _ => rfl) (by decide)
        have hGG := mz_fr (K := []) (Fa := Ga) hgr9 (fun _ _ => rfl) (by decide)
        have hf2 := (hfr9 0 (by decide)).trans hf2
        exact mz_iret (v := v25) hx hb hr rfl hlocks ⟨hIF, hIG, hIR, hFF, hRR, hGG, (by omega), (by omega)⟩ hM hS dX13_hears_48
      · have hc24 : ¬ (v17.toInt = 0) := fun h9 => c9 ((fi_eq rfl (show (0 : Int32).toInt = 0 by decide)).mpr h9)
        refine lv_aload_n hx hb dX13_hears_34 rfl (lv_at hl 0 rfl) ?_
        refine lv_iload_n hx hb dX13_hears_35 rfl (lv_at hl 2 rfl) ?_
        refine mz_Vj (As := [.int p2]) (rest := []) ⟨hx, hb, hml, hown, hts⟩ hK hM hS (k_X13_isSinger l D cy ld ad am hD _ _ _ _ p2 hIF hIG hIR) ⟨callB_of 1 hts (wl_in mw_320) rfl rfl rfl (htl _ mw_5) (htl _ mw_317) hd_yX13_isSinger ⟨(Nat.le_of_ble_eq_true rfl), (Nat.le_of_ble_eq_true rfl)⟩, htl _ mw_318, htl _ mw_319⟩ rfl hl.1 rfl (Nat.le_of_ble_eq_true rfl) dX13_hears_36 ⟨(Nat.le_of_ble_eq_true rfl), (Nat.le_of_ble_eq_true rfl)⟩ (fun v28 H locs hpo hM hS => ?_)
        obtain ⟨hpo29, hpo30, hpo31, hpo32, hpo33⟩ := hpo
        have hq_v28 := tk_rng v28
        refine lv_if_ne (tgt := 49) hx hb dX13_hears_39 (by decide) (fun c9 => ?_) (fun c9 => ?_)
        · have hc35 : ¬ (v28.toInt = 0) := fun h9 => c9 ((fi_eq rfl (show (0 : Int32).toInt = 0 by decide)).mpr h9)
          refine lv_aload_n hx hb dX13_hears_49 rfl (lv_at hl 0 rfl) ?_
          refine mz_getR hx hb htl hown hK hM 3 (Nat.le_of_ble_eq_true rfl) (Nat.le_of_ble_eq_true rfl) (htl _ mw_188) (fun _ h9 => h9) dX13_hears_50 ?_
          refine lv_bipush (v := 108) hx hb dX13_hears_53 (by decide) ?_
          refine lv_iload_n hx hb dX13_hears_55 rfl (lv_at hl 1 rfl) ?_
          refine lv_iadd hx hb dX13_hears_56 ?_
          refine tk_add (show (108 : Int32).toInt = 108 by decide) rfl (by omega) (by omega) (fun v36 h_v36 => ?_)
          refine mz_iald hx hb hK hM 3 (Nat.le_of_ble_eq_true rfl) rfl (nn := 5560) rfl rfl (by omega) (by omega) dX13_hears_57 (fun v37 e_v37 => ?_)
          have hq_v37 := tk_rng v37
          refine lv_iload_n hx hb dX13_hears_58 rfl (lv_at hl 2 rfl) ?_
          refine lv_ishr hx hb dX13_hears_59 ?_
          refine tk_any (fun v38 => ?_)
          refine lv_iconst (v := 1) hx hb dX13_hears_60 (by decide) ?_
          refine lv_iand hx hb dX13_hears_61 ?_
          refine tk_say (P := fun z => 0 ≤ z.toInt ∧ z.toInt ≤ 1) (tk_and v38 1 (by decide) (by decide)) (fun v39 h_v39 => ?_)
          refine lv_istore (lv' := [(4, .int v39), (0, .ref am), (1, .int p1), (2, .int p2), (3, .int p3)]) hx hb dX13_hears_62 hl (by decide) rfl (fun ls hl => ?_)
          refine lv_aload_n hx hb dX13_hears_64 rfl (lv_at hl 1 rfl) ?_
          refine mz_getR hx hb htl hown hK hM 3 (Nat.le_of_ble_eq_true rfl) (Nat.le_of_ble_eq_true rfl) (htl _ mw_188) (fun _ h9 => h9) dX13_hears_65 ?_
          refine lv_bipush (v := 108) hx hb dX13_hears_68 (by decide) ?_
          refine lv_iload_n hx hb dX13_hears_70 rfl (lv_at hl 2 rfl) ?_
          refine lv_iadd hx hb dX13_hears_71 ?_
          refine tk_add (show (108 : Int32).toInt = 108 by decide) rfl (by omega) (by omega) (fun v40 h_v40 => ?_)
          refine lv_dup2_11 hx hb dX13_hears_72 rfl rfl ?_
          refine mz_iald hx hb hK hM 3 (Nat.le_of_ble_eq_true rfl) rfl (nn := 5560) rfl rfl (by omega) (by omega) dX13_hears_73 (fun v41 e_v41 => ?_)
          have hq_v41 := tk_rng v41
          refine lv_iload_n hx hb dX13_hears_74 rfl (lv_at hl 4 rfl) ?_
          refine lv_iload hx hb dX13_hears_75 (lv_at hl 0 rfl) ?_
          have hj49 : ∀ (v48 : Int32), ((-9999) ≤ v48.toInt) → (v48.toInt ≤ 1099) → ∀ ls : Array Slot, lv_has ls 5 [(4, .int v39), (0, .ref am)] → W p l e ({ frames := 5, cells := 0, slots := 0, locals := 280 }) s m args below meth c H locs 0 0 (MQ below (mz_i D cy ad am (fun r F G R S => mz_IF true F ∧ mz_IG G ∧ mz_IR [] true R ∧ (∀ k : Nat, k ∉ ([0, 1] : List Nat) → F k = Fa k) ∧ (∀ k : Nat, k ∉ ([2, 3] : List Nat) → R k = Ra k) ∧ (∀ k : Nat, k ∉ ([] : List Nat) → G k = Ga k) ∧ (-2) ≤ r.toInt ∧ r.toInt ≤ 1)) args s 0 0 (mz_W ad am)) (F0 m 99 ls [.int v48, .int v41, .int v40, .ref (ad 3)]) := by
            intro v48 hq0_j49 hq1_j49 ls hl
            refine lv_iadd hx hb dX13_hears_99 ?_
            obtain ⟨v50, hm_v50⟩ : ∃ z : Int32, v41 + v48 = z := ⟨_, rfl⟩
            refine fx_ti hm_v50 ?_
            refine mz_iast (x := v50) hx hb hK hD hM hS 3 (Nat.le_of_ble_eq_true rfl) rfl (nn := 5560) rfl rfl (by omega) (by omega) dX13_hears_100 (fun H locs R hM hS hw9 hj9 => ?_)
            have hIR := hIR.put hw9 hj9 (mz_r3 (hIR.at 3) (I := v40.toInt) rfl (by omega) (by omega) (fun h9 => by first | (cases h9; done) | omega) (by unfold mE; omega))
            have hRR := mz_frp (K := [2, 3]) (Fa := Ra) hj9 (fun _ _ => rfl) (by decide)
            refine lv_aload_n hx hb dX13_hears_101 rfl (lv_at hl 1 rfl) ?_
            refine lv_iconst (v := 0) hx hb dX13_hears_102 (by decide) ?_
            have hk_0 : (0 : Int32).toInt = 0 := by decide
            refine mz_putI (ty := .int) (x := 0) hx hb htl hown hK hD hM hS 1 (Nat.le_of_ble_eq_true rfl) rfl (htl _ mw_297) (fun _ h9 => h9) rfl (tyX13_ok 1 (by decide)) rfl rfl dX13_hears_103 (fun H locs F hM hS hf9 hj9 => ?_)
            have hIF := hIF.put hf9 hj9 (tk_rng _).1 (tk_rng _).2 (by decide)
            have hFF := mz_frp (K := [0, 1]) (Fa := Fa) hj9 hFF (by decide)
            have hf2 := (hj9 0 (by decide)).trans hf2
            have hf53 := hf9
            refine lv_iload hx hb dX13_hears_106 (lv_at hl 0 rfl) ?_
            exact mz_iret (v := v39) hx hb hr rfl hlocks ⟨hIF, hIG, hIR, hFF, hRR, (fun _ _ => rfl), (by omega), (by omega)⟩ hM hS dX13_hears_108
          refine lv_icmp_ne (tgt := 84) hx hb dX13_hears_77 (by decide) (fun c9 => ?_) (fun c9 => ?_)
          · have hc42 : ¬ (p3.toInt = v39.toInt) := fun h9 => c9 ((fi_eq rfl rfl).mpr h9)
            refine lv_iload_n hx hb dX13_hears_84 rfl (lv_at hl 4 rfl) ?_
            refine lv_iconst (v := 1) hx hb dX13_hears_85 (by decide) ?_
            refine lv_icmp_ne (tgt := 95) hx hb dX13_hears_86 (by decide) (fun c9 => ?_) (fun c9 => ?_)
            · have hc54 : ¬ (p3.toInt = 1) := fun h9 => c9 ((fi_eq rfl (show (1 : Int32).toInt = 1 by decide)).mpr h9)
              refine lv_iconst (v := 1) hx hb dX13_hears_95 (by decide) ?_
              refine lv_iload_n hx hb dX13_hears_96 rfl (lv_at hl 3 rfl) ?_
              refine lv_ishl hx hb dX13_hears_97 ?_
              refine tk_say (P := fun z => 1 ≤ z.toInt ∧ z.toInt ≤ 1024) (tk_shl1 p2 (by omega) (by omega)) (fun v55 h_v55 => ?_)
              refine lv_ineg hx hb dX13_hears_98 ?_
              refine tk_neg rfl (by omega) (by omega) (fun v56 h_v56 => ?_)
              exact hj49 v56 (by omega) (by omega) _ (lv_sub hl [0, 1] rfl)
            · have hc54 : p3.toInt = 1 := (fi_eq rfl (show (1 : Int32).toInt = 1 by decide)).mp c9
              refine lv_iconst (v := 1) hx hb dX13_hears_89 (by decide) ?_
              refine lv_iload_n hx hb dX13_hears_90 rfl (lv_at hl 3 rfl) ?_
              refine lv_ishl hx hb dX13_hears_91 ?_
              refine tk_say (P := fun z => 1 ≤ z.toInt ∧ z.toInt ≤ 1024) (tk_shl1 p2 (by omega) (by omega)) (fun v57 h_v57 => ?_)
              refine lv_goto (tgt := 99) hx hb dX13_hears_92 (by decide) ?_
              exact hj49 v57 (by omega) (by omega) _ (lv_sub hl [0, 1] rfl)
          · have hc42 : p3.toInt = v39.toInt := (fi_eq rfl rfl).mp c9
            refine lv_iconst (v := 0) hx hb dX13_hears_80 (by decide) ?_
            refine lv_goto (tgt := 99) hx hb dX13_hears_81 (by decide) ?_
            have hk_0 : (0 : Int32).toInt = 0 := by decide
            exact hj49 0 (by omega) (by omega) _ (lv_sub hl [0, 1] rfl)
        · have hc35 : v28.toInt = 0 := (fi_eq rfl (show (0 : Int32).toInt = 0 by decide)).mp c9
          refine lv_aload_n hx hb dX13_hears_42 rfl (lv_at hl 0 rfl) ?_
          refine lv_bipush (v := (-2)) hx hb dX13_hears_43 (by decide) ?_
          have hk_m2 : ((-2) : Int32).toInt = (-2) := by decide
          refine mz_Vi (As := [.int (-2)]) (rest := []) ⟨hx, hb, hml, hown, hts⟩ hK hM hS (k_X13_tell l D cy ld ad am hD _ _ _ _ (-2) hIF hIG hIR (by omega) (by omega)) ⟨callB_of 1 hts (wl_in mw_296) rfl rfl rfl (htl _ mw_5) (htl _ mw_293) hd_yX13_tell ⟨(Nat.le_of_ble_eq_true rfl), (Nat.le_of_ble_eq_true rfl)⟩, htl _ mw_294, htl _ mw_295⟩ rfl hl.1 rfl (Nat.le_of_ble_eq_true rfl) dX13_hears_45 ⟨(Nat.le_of_ble_eq_true rfl), (Nat.le_of_ble_eq_true rfl)⟩ (fun v58 H locs F G R S hpo hM hS => ?_)
          obtain ⟨hIF, hIG, hIR, hfr9, hrr9, hgr9, hpo59⟩ := hpo
          have hq_v58 := tk_rng v58
          have hFF := mz_fr (K := [0, 1]) (Fa := Fa) hfr9 hFF (by decide)
          have hRR := mz_fr (K := [2, 3]) (Fa := Ra) hrr9 (fun _ _ => rfl) (by decide)
          have hGG := mz_fr (K := []) (Fa := Ga) hgr9 (fun _ _ => rfl) (by decide)
          have hf2 := (hfr9 0 (by decide)).trans hf2
          exact mz_iret (v := v58) hx hb hr rfl hlocks ⟨hIF, hIG, hIR, hFF, hRR, hGG, (by omega), (by omega)⟩ hM hS dX13_hears_48
    · have hc16 : v8.toInt = 0 := (fi_eq rfl (show (0 : Int32).toInt = 0 by decide)).mp c9
      refine lv_aload_n hx hb dX13_hears_20 rfl (lv_at hl 0 rfl) ?_
      refine lv_iconst (v := (-1)) hx hb dX13_hears_21 (by decide) ?_
      have hk_m1 : ((-1) : Int32).toInt = (-1) := by decide
      refine mz_Vi (As := [.int (-1)]) (rest := []) ⟨hx, hb, hml, hown, hts⟩ hK hM hS (k_X13_tell l D cy ld ad am hD _ _ _ _ (-1) hIF hIG hIR (by omega) (by omega)) ⟨callB_of 1 hts (wl_in mw_296) rfl rfl rfl (htl _ mw_5) (htl _ mw_293) hd_yX13_tell ⟨(Nat.le_of_ble_eq_true rfl), (Nat.le_of_ble_eq_true rfl)⟩, htl _ mw_294, htl _ mw_295⟩ rfl hl.1 rfl (Nat.le_of_ble_eq_true rfl) dX13_hears_22 ⟨(Nat.le_of_ble_eq_true rfl), (Nat.le_of_ble_eq_true rfl)⟩ (fun v61 H locs F G R S hpo hM hS => ?_)
      obtain ⟨hIF, hIG, hIR, hfr9, hrr9, hgr9, hpo62⟩ := hpo
      have hq_v61 := tk_rng v61
      have hFF := mz_fr (K := [0, 1]) (Fa := Fa) hfr9 hFF (by decide)
      have hRR := mz_fr (K := [2, 3]) (Fa := Ra) hrr9 (fun _ _ => rfl) (by decide)
      have hGG := mz_fr (K := []) (Fa := Ga) hgr9 (fun _ _ => rfl) (by decide)
      have hf2 := (hfr9 0 (by decide)).trans hf2
      exact mz_iret (v := v61) hx hb hr rfl hlocks ⟨hIF, hIG, hIR, hFF, hRR, hGG, (by omega), (by omega)⟩ hM hS dX13_hears_25
theorem dX13_row_0 : decode cX13_row 0 = .ok (.aload_n 0, 1) := by decide +kernel
theorem dX13_row_1 : decode cX13_row 1 = .ok (.iconst 0, 1) := by decide +kernel
theorem dX13_row_2 : decode cX13_row 2 = .ok (.putfield 170, 3) := by decide +kernel
theorem dX13_row_5 : decode cX13_row 5 = .ok (.aload_n 0, 1) := by decide +kernel
theorem dX13_row_6 : decode cX13_row 6 = .ok (.getfield 224, 3) := by decide +kernel
theorem dX13_row_9 : decode cX13_row 9 = .ok (.istore_n 1, 1) := by decide +kernel
theorem dX13_row_10 : decode cX13_row 10 = .ok (.aload_n 0, 1) := by decide +kernel
theorem dX13_row_11 : decode cX13_row 11 = .ok (.iconst 0, 1) := by decide +kernel
theorem dX13_row_12 : decode cX13_row 12 = .ok (.putfield 224, 3) := by decide +kernel
theorem dX13_row_15 : decode cX13_row 15 = .ok (.iload_n 1, 1) := by decide +kernel
theorem dX13_row_16 : decode cX13_row 16 = .ok (.ifCond .ne 10, 3) := by decide +kernel
theorem dX13_row_26 : decode cX13_row 26 = .ok (.aload_n 0, 1) := by decide +kernel
theorem dX13_row_27 : decode cX13_row 27 = .ok (.iconst 0, 1) := by decide +kernel
theorem dX13_row_28 : decode cX13_row 28 = .ok (.putfield 227, 3) := by decide +kernel
theorem dX13_row_31 : decode cX13_row 31 = .ok (.iconst 0, 1) := by decide +kernel
theorem dX13_row_32 : decode cX13_row 32 = .ok (.istore_n 2, 1) := by decide +kernel
theorem dX13_row_33 : decode cX13_row 33 = .ok (.iconst 0, 1) := by decide +kernel
theorem dX13_row_34 : decode cX13_row 34 = .ok (.istore_n 3, 1) := by decide +kernel
theorem dX13_row_35 : decode cX13_row 35 = .ok (.iload_n 3, 1) := by decide +kernel
theorem dX13_row_36 : decode cX13_row 36 = .ok (.iload_n 1, 1) := by decide +kernel
theorem dX13_row_37 : decode cX13_row 37 = .ok (.if_icmp .ge 53, 3) := by decide +kernel
theorem dX13_row_90 : decode cX13_row 90 = .ok (.aload_n 0, 1) := by decide +kernel
theorem dX13_row_91 : decode cX13_row 91 = .ok (.iload_n 2, 1) := by decide +kernel
theorem dX13_row_92 : decode cX13_row 92 = .ok (.invokevirtual 183, 3) := by decide +kernel
theorem dX13_row_95 : decode cX13_row 95 = .ok (.ireturn, 1) := by decide +kernel
theorem dX13_row_40 : decode cX13_row 40 = .ok (.iload_n 3, 1) := by decide +kernel
theorem dX13_row_41 : decode cX13_row 41 = .ok (.iconst 1, 1) := by decide +kernel
theorem dX13_row_42 : decode cX13_row 42 = .ok (.iadd, 1) := by decide +kernel
theorem dX13_row_43 : decode cX13_row 43 = .ok (.iload_n 1, 1) := by decide +kernel
theorem dX13_row_84 : decode cX13_row 84 = .ok (.iinc 3 2, 3) := by decide +kernel
theorem dX13_row_87 : decode cX13_row 87 = .ok (.goto (-52), 3) := by decide +kernel
theorem dX13_row_44 : decode cX13_row 44 = .ok (.if_icmp .ge 30, 3) := by decide +kernel
theorem dX13_row_74 : decode cX13_row 74 = .ok (.aload_n 0, 1) := by decide +kernel
theorem dX13_row_75 : decode cX13_row 75 = .ok (.dup, 1) := by decide +kernel
theorem dX13_row_76 : decode cX13_row 76 = .ok (.getfield 227, 3) := by decide +kernel
theorem dX13_row_79 : decode cX13_row 79 = .ok (.iconst 1, 1) := by decide +kernel
theorem dX13_row_80 : decode cX13_row 80 = .ok (.iadd, 1) := by decide +kernel
theorem dX13_row_81 : decode cX13_row 81 = .ok (.putfield 227, 3) := by decide +kernel
theorem dX13_row_47 : decode cX13_row 47 = .ok (.aload_n 0, 1) := by decide +kernel
theorem dX13_row_48 : decode cX13_row 48 = .ok (.aload_n 0, 1) := by decide +kernel
theorem dX13_row_49 : decode cX13_row 49 = .ok (.getfield 35, 3) := by decide +kernel
theorem dX13_row_52 : decode cX13_row 52 = .ok (.iload_n 3, 1) := by decide +kernel
theorem dX13_row_53 : decode cX13_row 53 = .ok (.iaload, 1) := by decide +kernel
theorem dX13_row_54 : decode cX13_row 54 = .ok (.aload_n 0, 1) := by decide +kernel
theorem dX13_row_55 : decode cX13_row 55 = .ok (.getfield 35, 3) := by decide +kernel
theorem dX13_row_58 : decode cX13_row 58 = .ok (.iload_n 3, 1) := by decide +kernel
theorem dX13_row_59 : decode cX13_row 59 = .ok (.iconst 1, 1) := by decide +kernel
theorem dX13_row_60 : decode cX13_row 60 = .ok (.iadd, 1) := by decide +kernel
theorem dX13_row_61 : decode cX13_row 61 = .ok (.iaload, 1) := by decide +kernel
theorem dX13_row_62 : decode cX13_row 62 = .ok (.invokevirtual 213, 3) := by decide +kernel
theorem dX13_row_65 : decode cX13_row 65 = .ok (.ifCond .lt 9, 3) := by decide +kernel
theorem dX13_row_68 : decode cX13_row 68 = .ok (.iinc 2 1, 3) := by decide +kernel
theorem dX13_row_71 : decode cX13_row 71 = .ok (.goto 13, 3) := by decide +kernel
theorem dX13_row_19 : decode cX13_row 19 = .ok (.aload_n 0, 1) := by decide +kernel
theorem dX13_row_20 : decode cX13_row 20 = .ok (.bipush (-6), 2) := by decide +kernel
theorem dX13_row_22 : decode cX13_row 22 = .ok (.invokevirtual 183, 3) := by decide +kernel
theorem dX13_row_25 : decode cX13_row 25 = .ok (.ireturn, 1) := by decide +kernel
set_option maxHeartbeats 4000000 in
set_option maxRecDepth 100000 in
theorem k_X13_row (l : Launch) (D : va_G) (cy : Nat → ClassId) (ld ad : Nat → Nat) (am : Nat) (hD : mz_D ad am) (Fa : Nat → Int32) (Ga : Nat → Int64) (Ra : Nat → Nat → Int32) (Sa : Nat → Nat → Int64) (hIF : mz_IF true Fa) (hIG : mz_IG Ga) (hIR : mz_IR [] true Ra) : Met l yX13_row (wl yX13_row cX13_row 4 (some .int)) ({ frames := 5, cells := 0, slots := 0, locals := 280 }) (mz_p D cy ld ad am Fa Ga Ra Sa [.ref am]) (mz_i D cy ad am (fun r F G R S => mz_IF true F ∧ mz_IG G ∧ mz_IR [] true R ∧ (∀ k : Nat, k ∉ ([0, 1, 11, 13] : List Nat) → F k = Fa k) ∧ (∀ k : Nat, k ∉ ([2, 3] : List Nat) → R k = Ra k) ∧ (∀ k : Nat, k ∉ ([] : List Nat) → G k = Ga k) ∧ (-6) ≤ r.toInt ∧ r.toInt ≤ 399)) 0 0 (mz_W ad am) := by
  refine mz_met (y := yX13_row) (cc := cX13_row) (maxL := 4) (ret := (some .int)) (av := [.ref am]) _ (by decide) (Nat.le_of_ble_eq_true rfl) ?_
  intro p e s m args below meth c hx hb hr hml hts htl hown hlocks hK H locs hM hS ls hl
  have hown : s.vm.findClass RX13 = some m.cls := hown
  have hl : lv_has ls 4 [(0, .ref am)] := hl
  refine lv_aload_n hx hb dX13_row_0 rfl (lv_at hl 0 rfl) ?_
  refine lv_iconst (v := 0) hx hb dX13_row_1 (by decide) ?_
  have hk_0 : (0 : Int32).toInt = 0 := by decide
  refine mz_putI (ty := .int) (x := 0) hx hb htl hown hK hD hM hS 0 (Nat.le_of_ble_eq_true rfl) rfl (htl _ mw_286) (fun _ h9 => h9) rfl (tyX13_ok 0 (by decide)) rfl rfl dX13_row_2 (fun H locs F hM hS hf9 hj9 => ?_)
  have hIF := hIF.put hf9 hj9 (tk_rng _).1 (tk_rng _).2 (by decide)
  have hFF := mz_frp (K := [0, 1, 11, 13]) (Fa := Fa) hj9 (fun _ _ => rfl) (by decide)
  have hf2 := hf9
  refine lv_aload_n hx hb dX13_row_5 rfl (lv_at hl 0 rfl) ?_
  refine mz_getI hx hb htl hown hK hM 13 (Nat.le_of_ble_eq_true rfl) rfl (htl _ mw_431) (fun _ h9 => h9) dX13_row_6 (fun v4 hf3 => ?_)
  have hq_v4 := tk_rng v4
  have hr_v4 : 0 ≤ v4.toInt ∧ v4.toInt ≤ 400 := hIF.at hf3
  refine lv_istore_n (lv' := [(1, .int v4), (0, .ref am)]) hx hb dX13_row_9 rfl hl (by decide) rfl (fun ls hl => ?_)
  refine lv_aload_n hx hb dX13_row_10 rfl (lv_at hl 1 rfl) ?_
  refine lv_iconst (v := 0) hx hb dX13_row_11 (by decide) ?_
  have hk_0 : (0 : Int32).toInt = 0 := by decide
  have hk_0 : (0 : Int32).toInt = 0 := by decide
  refine mz_putI (ty := .int) (x := 0) hx hb htl hown hK hD hM hS 13 (Nat.le_of_ble_eq_true rfl) rfl (htl _ mw_431) (fun _ h9 => h9) rfl (tyX13_ok 13 (by decide)) rfl rfl dX13_row_12 (fun H locs F hM hS hf9 hj9 => ?_)
  have hIF := hIF.put hf9 hj9 (show 0 ≤ (0 : Int32).toInt by omega) (show (0 : Int32).toInt ≤ 400 by omega) (by decide)
  have hFF := mz_frp (K := [0, 1, 11, 13]) (Fa := Fa) hj9 hFF (by decide)
  have hf2 := (hj9 0 (by decide)).trans hf2
  have hf6 := hf9
  refine lv_iload_n hx hb dX13_row_15 rfl (lv_at hl 0 rfl) ?_
  refine lv_if_ne (tgt := 26) hx hb dX13_row_16 (by decide) (fun c9 => ?_) (fun c9 => ?_)
  · have hc7 : ¬ (v4.toInt = 0) := fun h9 => c9 ((fi_eq rfl (show (0 : Int32).toInt = 0 by decide)).mpr h9)
    refine lv_aload_n hx hb dX13_row_26 rfl (lv_at hl 1 rfl) ?_
    refine lv_iconst (v := 0) hx hb dX13_row_27 (by decide) ?_
    have hk_0 : (0 : Int32).toInt = 0 := by decide
    refine mz_putI (ty := .int) (x := 0) hx hb htl hown hK hD hM hS 11 (Nat.le_of_ble_eq_true rfl) rfl (htl _ mw_453) (fun _ h9 => h9) rfl (tyX13_ok 11 (by decide)) rfl rfl dX13_row_28 (fun H locs F hM hS hf9 hj9 => ?_)
    have hIF := hIF.put hf9 hj9 (tk_rng _).1 (tk_rng _).2 (by decide)
    have hFF := mz_frp (K := [0, 1, 11, 13]) (Fa := Fa) hj9 hFF (by decide)
    have hf2 := (hj9 0 (by decide)).trans hf2
    have hf6 := (hj9 13 (by decide)).trans hf6
    have hf9 := hf9
    refine lv_iconst (v := 0) hx hb dX13_row_31 (by decide) ?_
    refine lv_istore_n (lv' := [(2, .int 0), (1, .int v4), (0, .ref am)]) hx hb dX13_row_32 rfl hl (by decide) rfl (fun ls hl => ?_)
    refine lv_iconst (v := 0) hx hb dX13_row_33 (by decide) ?_
    refine lv_istore_n (lv' := [(3, .int 0), (2, .int 0), (1, .int v4), (0, .ref am)]) hx hb dX13_row_34 rfl hl (by decide) rfl (fun ls hl => ?_)
    have hl968 : ∀ (N_l968 : Nat) (v168 : Int32) (v169 : Int32) (v170 : Int32) (H : Heap) (locs : List Loc) (F : Nat → Int32) (G : Nat → Int64) (R : Nat → Nat → Int32) (S : Nat → Nat → Int64), (0 ≤ (-1) * v168.toInt + v4.toInt + 1) → (0 ≤ (-1) * v170.toInt + v4.toInt) → (0 ≤ v169.toInt) → (0 ≤ v170.toInt) → (0 ≤ v168.toInt + (-1) * v169.toInt) → (0 ≤ v168.toInt + (-1) * v170.toInt) → (0 ≤ (-1) * v169.toInt + v4.toInt + (-1)) → (mz_S D cy ad am F G R S H) → (va_S (mz_W ad am) s.heap H locs) → (mz_IF true F) → (mz_IG G) → (mz_IR [] true R) → (∀ k : Nat, k ∉ ([0, 1, 11, 13] : List Nat) → F k = Fa k) → (∀ k : Nat, k ∉ ([] : List Nat) → G k = Ga k) → (∀ k : Nat, k ∉ ([2, 3] : List Nat) → R k = Ra k) → (F 0 = 0) → (F 13 = 0) → (F 11 = v170) → ((-1) * v168.toInt + 401 < (N_l968 : Int)) → ∀ ls : Array Slot, lv_has ls 4 [(3, .int v168), (2, .int v169), (1, .int v4), (0, .ref am)] → W p l e ({ frames := 5, cells := 0, slots := 0, locals := 280 }) s m args below meth c H locs 0 0 (MQ below (mz_i D cy ad am (fun r F G R S => mz_IF true F ∧ mz_IG G ∧ mz_IR [] true R ∧ (∀ k : Nat, k ∉ ([0, 1, 11, 13] : List Nat) → F k = Fa k) ∧ (∀ k : Nat, k ∉ ([2, 3] : List Nat) → R k = Ra k) ∧ (∀ k : Nat, k ∉ ([] : List Nat) → G k = Ga k) ∧ (-6) ≤ r.toInt ∧ r.toInt ≤ 399)) args s 0 0 (mz_W ad am)) (F0 m 35 ls []) := by
      intro N_l968
      induction N_l968 with
      | zero => intro v168 v169 v170 H locs F G R S hq0_l968 hq1_l968 hq2_l968 hq3_l968 hq4_l968 hq5_l968 hq6_l968 hM hS hIF hIG hIR hFF hGG hRR hf2 hf6 hf9 hm_l968 ls hl; exfalso; omega
      | succ N_l968 ih_l968 =>
        intro v168 v169 v170 H locs F G R S hq0_l968 hq1_l968 hq2_l968 hq3_l968 hq4_l968 hq5_l968 hq6_l968 hM hS hIF hIG hIR hFF hGG hRR hf2 hf6 hf9 hm_l968 ls hl
        refine lv_iload_n hx hb dX13_row_35 rfl (lv_at hl 0 rfl) ?_
        refine lv_iload_n hx hb dX13_row_36 rfl (lv_at hl 2 rfl) ?_
        refine lv_icmp_ge (tgt := 90) hx hb dX13_row_37 (by decide) (fun c9 => ?_) (fun c9 => ?_)
        · have hc969 : v4.toInt ≤ v168.toInt := (fi_le rfl rfl).mp c9
          refine lv_aload_n hx hb dX13_row_90 rfl (lv_at hl 3 rfl) ?_
          refine lv_iload_n hx hb dX13_row_91 rfl (lv_at hl 1 rfl) ?_
          refine mz_Vi (As := [.int v169]) (rest := []) ⟨hx, hb, hml, hown, hts⟩ hK hM hS (k_X13_tell l D cy ld ad am hD _ _ _ _ v169 hIF hIG hIR (by omega) (by omega)) ⟨callB_of 1 hts (wl_in mw_296) rfl rfl rfl (htl _ mw_5) (htl _ mw_293) hd_yX13_tell ⟨(Nat.le_of_ble_eq_true rfl), (Nat.le_of_ble_eq_true rfl)⟩, htl _ mw_294, htl _ mw_295⟩ rfl hl.1 rfl (Nat.le_of_ble_eq_true rfl) dX13_row_92 ⟨(Nat.le_of_ble_eq_true rfl), (Nat.le_of_ble_eq_true rfl)⟩ (fun v1010 H locs F G R S hpo hM hS => ?_)
          obtain ⟨hIF, hIG, hIR, hfr9, hrr9, hgr9, hpo1011⟩ := hpo
          have hq_v1010 := tk_rng v1010
          have hFF := mz_fr (K := [0, 1, 11, 13]) (Fa := Fa) hfr9 hFF (by decide)
          have hRR := mz_fr (K := [2, 3]) (Fa := Ra) hrr9 hRR (by decide)
          have hGG := mz_fr (K := []) (Fa := Ga) hgr9 hGG (by decide)
          have hf2 := (hfr9 0 (by decide)).trans hf2
          have hf6 := (hfr9 13 (by decide)).trans hf6
          have hf9 := (hfr9 11 (by decide)).trans hf9
          exact mz_iret (v := v1010) hx hb hr rfl hlocks ⟨hIF, hIG, hIR, hFF, hRR, hGG, (by omega), (by omega)⟩ hM hS dX13_row_95
        · have hc969 : ¬ (v4.toInt ≤ v168.toInt) := fun h9 => c9 ((fi_le rfl rfl).mpr h9)
          refine lv_iload_n hx hb dX13_row_40 rfl (lv_at hl 0 rfl) ?_
          refine lv_iconst (v := 1) hx hb dX13_row_41 (by decide) ?_
          refine lv_iadd hx hb dX13_row_42 ?_
          refine tk_add rfl (show (1 : Int32).toInt = 1 by decide) (by omega) (by omega) (fun v1013 h_v1013 => ?_)
          refine lv_iload_n hx hb dX13_row_43 rfl (lv_at hl 2 rfl) ?_
          have hj1036 : ∀ (v1033 : Int32) (v1034 : Int32) (H : Heap) (locs : List Loc) (F : Nat → Int32) (G : Nat → Int64) (R : Nat → Nat → Int32) (S : Nat → Nat → Int64), (0 ≤ v1034.toInt) → (0 ≤ (-1) * v1033.toInt + v4.toInt + (-1)) → (0 ≤ (-1) * v1033.toInt + v169.toInt + 1) → (0 ≤ v1033.toInt + (-1) * v169.toInt) → (0 ≤ (-1) * v1034.toInt + v168.toInt + 1) → (mz_S D cy ad am F G R S H) → (va_S (mz_W ad am) s.heap H locs) → (mz_IF true F) → (mz_IG G) → (mz_IR [] true R) → (∀ k : Nat, k ∉ ([0, 1, 11, 13] : List Nat) → F k = Fa k) → (∀ k : Nat, k ∉ ([] : List Nat) → G k = Ga k) → (∀ k : Nat, k ∉ ([2, 3] : List Nat) → R k = Ra k) → (F 0 = 0) → (F 13 = 0) → (F 11 = v1034) → ∀ ls : Array Slot, lv_has ls 4 [(3, .int v168), (2, .int v1033), (1, .int v4), (0, .ref am)] → W p l e ({ frames := 5, cells := 0, slots := 0, locals := 280 }) s m args below meth c H locs 0 0 (MQ below (mz_i D cy ad am (fun r F G R S => mz_IF true F ∧ mz_IG G ∧ mz_IR [] true R ∧ (∀ k : Nat, k ∉ ([0, 1, 11, 13] : List Nat) → F k = Fa k) ∧ (∀ k : Nat, k ∉ ([2, 3] : List Nat) → R k = Ra k) ∧ (∀ k : Nat, k ∉ ([] : List Nat) → G k = Ga k) ∧ (-6) ≤ r.toInt ∧ r.toInt ≤ 399)) args s 0 0 (mz_W ad am)) (F0 m 84 ls []) := by
            intro v1033 v1034 H locs F G R S hq0_j1036 hq1_j1036 hq2_j1036 hq3_j1036 hq4_j1036 hM hS hIF hIG hIR hFF hGG hRR hf2 hf6 hf1017 ls hl
            have hq_v1034 := tk_rng v1034
            obtain ⟨v1037, h_v1037, e_v1037⟩ := tk_inc v168 2 (by decide) (by omega) (by omega)
            refine lv_iinc (v := v1037) (lv' := [(3, .int v1037), (2, .int v1033), (1, .int v4), (0, .ref am)]) hx hb dX13_row_84 hl (k := 0) rfl e_v1037 (by decide) rfl (fun ls hl => ?_)
            refine lv_goto (tgt := 35) hx hb dX13_row_87 (by decide) ?_
            exact ih_l968 v1037 v1033 v1034 _ _ _ _ _ _ (by omega) (by omega) (by omega) (by omega) (by omega) (by omega) (by omega) hM hS hIF hIG hIR hFF hGG hRR hf2 hf6 hf1017 (by omega) _ (lv_sub hl [0, 1, 2, 3] rfl)
          refine lv_icmp_ge (tgt := 74) hx hb dX13_row_44 (by decide) (fun c9 => ?_) (fun c9 => ?_)
          · have hc1014 : v4.toInt ≤ v1013.toInt := (fi_le rfl rfl).mp c9
            refine lv_aload_n hx hb dX13_row_74 rfl (lv_at hl 3 rfl) ?_
            refine lv_dup hx hb dX13_row_75 rfl ?_
            refine mz_getI hx hb htl hown hK hM 11 (Nat.le_of_ble_eq_true rfl) rfl (htl _ mw_453) (fun _ h9 => h9) dX13_row_76 (fun v9 e9 => ?_)
            refine fx_ti (v := v170) (e9.symm.trans hf9) ?_
            refine lv_iconst (v := 1) hx hb dX13_row_79 (by decide) ?_
            refine lv_iadd hx hb dX13_row_80 ?_
            refine tk_add rfl (show (1 : Int32).toInt = 1 by decide) (by omega) (by omega) (fun v1038 h_v1038 => ?_)
            refine mz_putI (ty := .int) (x := v1038) hx hb htl hown hK hD hM hS 11 (Nat.le_of_ble_eq_true rfl) rfl (htl _ mw_453) (fun _ h9 => h9) rfl (tyX13_ok 11 (by decide)) rfl rfl dX13_row_81 (fun H locs F hM hS hf9 hj9 => ?_)
            have hIF := hIF.put hf9 hj9 (tk_rng _).1 (tk_rng _).2 (by decide)
            have hFF := mz_frp (K := [0, 1, 11, 13]) (Fa := Fa) hj9 hFF (by decide)
            have hf2 := (hj9 0 (by decide)).trans hf2
            have hf6 := (hj9 13 (by decide)).trans hf6
            have hf1040 := hf9
            exact hj1036 v169 v1038 _ _ _ _ _ _ (by omega) (by omega) (by omega) (by omega) (by omega) hM hS hIF hIG hIR hFF hGG hRR hf2 hf6 hf1040 _ (lv_sub hl [0, 1, 2, 3] rfl)
          · have hc1014 : ¬ (v4.toInt ≤ v1013.toInt) := fun h9 => c9 ((fi_le rfl rfl).mpr h9)
            refine lv_aload_n hx hb dX13_row_47 rfl (lv_at hl 3 rfl) ?_
            refine lv_aload_n hx hb dX13_row_48 rfl (lv_at hl 3 rfl) ?_
            refine mz_getR hx hb htl hown hK hM 12 (Nat.le_of_ble_eq_true rfl) (Nat.le_of_ble_eq_true rfl) (htl _ mw_195) (fun _ h9 => h9) dX13_row_49 ?_
            refine lv_iload_n hx hb dX13_row_52 rfl (lv_at hl 0 rfl) ?_
            refine mz_iald hx hb hK hM 12 (Nat.le_of_ble_eq_true rfl) rfl (nn := 400) rfl rfl (by omega) (by omega) dX13_row_53 (fun v1041 e_v1041 => ?_)
            have hq_v1041 := tk_rng v1041
            refine lv_aload_n hx hb dX13_row_54 rfl (lv_at hl 3 rfl) ?_
            refine mz_getR hx hb htl hown hK hM 12 (Nat.le_of_ble_eq_true rfl) (Nat.le_of_ble_eq_true rfl) (htl _ mw_195) (fun _ h9 => h9) dX13_row_55 ?_
            refine lv_iload_n hx hb dX13_row_58 rfl (lv_at hl 0 rfl) ?_
            refine lv_iconst (v := 1) hx hb dX13_row_59 (by decide) ?_
            refine lv_iadd hx hb dX13_row_60 ?_
            refine tk_add rfl (show (1 : Int32).toInt = 1 by decide) (by omega) (by omega) (fun v1042 h_v1042 => ?_)
            refine mz_iald hx hb hK hM 12 (Nat.le_of_ble_eq_true rfl) rfl (nn := 400) rfl rfl (by omega) (by omega) dX13_row_61 (fun v1043 e_v1043 => ?_)
            have hq_v1043 := tk_rng v1043
            refine mz_Vi (As := [.int v1041, .int v1043]) (rest := []) ⟨hx, hb, hml, hown, hts⟩ hK hM hS (k_X13_verse1 l D cy ld ad am hD _ _ _ _ v1041 v1043 hIF hIG hIR) ⟨callB_of 2 hts (wl_in mw_341) rfl rfl rfl (htl _ mw_5) (htl _ mw_338) hd_yX13_verse1 ⟨(Nat.le_of_ble_eq_true rfl), (Nat.le_of_ble_eq_true rfl)⟩, htl _ mw_339, htl _ mw_340⟩ rfl hl.1 rfl (Nat.le_of_ble_eq_true rfl) dX13_row_62 ⟨(Nat.le_of_ble_eq_true rfl), (Nat.le_of_ble_eq_true rfl)⟩ (fun v1044 H locs F G R S hpo hM hS => ?_)
            obtain ⟨hIF, hIG, hIR, hfr9, hrr9, hgr9, hpo1045, hpo1046⟩ := hpo
            have hq_v1044 := tk_rng v1044
            have hFF := mz_fr (K := [0, 1, 11, 13]) (Fa := Fa) hfr9 hFF (by decide)
            have hRR := mz_fr (K := [2, 3]) (Fa := Ra) hrr9 hRR (by decide)
            have hGG := mz_fr (K := []) (Fa := Ga) hgr9 hGG (by decide)
            have e_v1041 : R 12 (v168 : Int32).toNatClampNeg = _ := (congrFun (hrr9 12 (by decide)) _).trans e_v1041
            have e_v1043 : R 12 (v1042 : Int32).toNatClampNeg = _ := (congrFun (hrr9 12 (by decide)) _).trans e_v1043
            have hf2 := (hfr9 0 (by decide)).trans hf2
            have hf6 := (hfr9 13 (by decide)).trans hf6
            have hf9 := (hfr9 11 (by decide)).trans hf9
            refine lv_if_lt (tgt := 74) hx hb dX13_row_65 (by decide) (fun c9 => ?_) (fun c9 => ?_)
            · have hc1048 : v1044.toInt < 0 := (fi_lt rfl (show (0 : Int32).toInt = 0 by decide)).mp c9
              refine lv_aload_n hx hb dX13_row_74 rfl (lv_at hl 3 rfl) ?_
              refine lv_dup hx hb dX13_row_75 rfl ?_
              refine mz_getI hx hb htl hown hK hM 11 (Nat.le_of_ble_eq_true rfl) rfl (htl _ mw_453) (fun _ h9 => h9) dX13_row_76 (fun v9 e9 => ?_)
              refine fx_ti (v := v170) (e9.symm.trans hf9) ?_
              refine lv_iconst (v := 1) hx hb dX13_row_79 (by decide) ?_
              refine lv_iadd hx hb dX13_row_80 ?_
              refine tk_add rfl (show (1 : Int32).toInt = 1 by decide) (by omega) (by omega) (fun v1049 h_v1049 => ?_)
              refine mz_putI (ty := .int) (x := v1049) hx hb htl hown hK hD hM hS 11 (Nat.le_of_ble_eq_true rfl) rfl (htl _ mw_453) (fun _ h9 => h9) rfl (tyX13_ok 11 (by decide)) rfl rfl dX13_row_81 (fun H locs F hM hS hf9 hj9 => ?_)
              have hIF := hIF.put hf9 hj9 (tk_rng _).1 (tk_rng _).2 (by decide)
              have hFF := mz_frp (K := [0, 1, 11, 13]) (Fa := Fa) hj9 hFF (by decide)
              have hf2 := (hj9 0 (by decide)).trans hf2
              have hf6 := (hj9 13 (by decide)).trans hf6
              have hf1051 := hf9
              exact hj1036 v169 v1049 _ _ _ _ _ _ (by omega) (by omega) (by omega) (by omega) (by omega) hM hS hIF hIG hIR hFF hGG hRR hf2 hf6 hf1051 _ (lv_sub hl [0, 1, 2, 3] rfl)
            · have hc1048 : ¬ (v1044.toInt < 0) := fun h9 => c9 ((fi_lt rfl (show (0 : Int32).toInt = 0 by decide)).mpr h9)
              obtain ⟨v1052, h_v1052, e_v1052⟩ := tk_inc v169 1 (by decide) (by omega) (by omega)
              refine lv_iinc (v := v1052) (lv' := [(2, .int v1052), (3, .int v168), (1, .int v4), (0, .ref am)]) hx hb dX13_row_68 hl (k := 1) rfl e_v1052 (by decide) rfl (fun ls hl => ?_)
              refine lv_goto (tgt := 84) hx hb dX13_row_71 (by decide) ?_
              exact hj1036 v1052 v170 _ _ _ _ _ _ (by omega) (by omega) (by omega) (by omega) (by omega) hM hS hIF hIG hIR hFF hGG hRR hf2 hf6 hf9 _ (lv_sub hl [1, 0, 2, 3] rfl)
    have hk_0 : (0 : Int32).toInt = 0 := by decide
    have hk_0 : (0 : Int32).toInt = 0 := by decide
    have hk_0 : (0 : Int32).toInt = 0 := by decide
    exact hl968 402 0 0 0 _ _ _ _ _ _ (by omega) (by omega) (by omega) (by omega) (by omega) (by omega) (by omega) hM hS hIF hIG hIR hFF (fun _ _ => rfl) (fun _ _ => rfl) hf2 hf6 hf9 (by omega) _ (lv_sub hl [0, 1, 2, 3] rfl)
  · have hc7 : v4.toInt = 0 := (fi_eq rfl (show (0 : Int32).toInt = 0 by decide)).mp c9
    refine lv_aload_n hx hb dX13_row_19 rfl (lv_at hl 1 rfl) ?_
    refine lv_bipush (v := (-6)) hx hb dX13_row_20 (by decide) ?_
    have hk_m6 : ((-6) : Int32).toInt = (-6) := by decide
    refine mz_Vi (As := [.int (-6)]) (rest := []) ⟨hx, hb, hml, hown, hts⟩ hK hM hS (k_X13_tell l D cy ld ad am hD _ _ _ _ (-6) hIF hIG hIR (by omega) (by omega)) ⟨callB_of 1 hts (wl_in mw_296) rfl rfl rfl (htl _ mw_5) (htl _ mw_293) hd_yX13_tell ⟨(Nat.le_of_ble_eq_true rfl), (Nat.le_of_ble_eq_true rfl)⟩, htl _ mw_294, htl _ mw_295⟩ rfl hl.1 rfl (Nat.le_of_ble_eq_true rfl) dX13_row_22 ⟨(Nat.le_of_ble_eq_true rfl), (Nat.le_of_ble_eq_true rfl)⟩ (fun v1053 H locs F G R S hpo hM hS => ?_)
    obtain ⟨hIF, hIG, hIR, hfr9, hrr9, hgr9, hpo1054⟩ := hpo
    have hq_v1053 := tk_rng v1053
    have hFF := mz_fr (K := [0, 1, 11, 13]) (Fa := Fa) hfr9 hFF (by decide)
    have hRR := mz_fr (K := [2, 3]) (Fa := Ra) hrr9 (fun _ _ => rfl) (by decide)
    have hGG := mz_fr (K := []) (Fa := Ga) hgr9 (fun _ _ => rfl) (by decide)
    have hf2 := (hfr9 0 (by decide)).trans hf2
    have hf6 := (hfr9 13 (by decide)).trans hf6
    exact mz_iret (v := v1053) hx hb hr rfl hlocks ⟨hIF, hIG, hIR, hFF, hRR, hGG, (by omega), (by omega)⟩ hM hS dX13_row_25
theorem dX13_coughs_0 : decode cX13_coughs 0 = .ok (.aload_n 0, 1) := by decide +kernel
theorem dX13_coughs_1 : decode cX13_coughs 1 = .ok (.iconst 0, 1) := by decide +kernel
theorem dX13_coughs_2 : decode cX13_coughs 2 = .ok (.putfield 170, 3) := by decide +kernel
theorem dX13_coughs_5 : decode cX13_coughs 5 = .ok (.aload_n 0, 1) := by decide +kernel
theorem dX13_coughs_6 : decode cX13_coughs 6 = .ok (.getfield 227, 3) := by decide +kernel
theorem dX13_coughs_9 : decode cX13_coughs 9 = .ok (.ireturn, 1) := by decide +kernel
set_option maxHeartbeats 4000000 in
set_option maxRecDepth 100000 in
theorem k_X13_coughs (l : Launch) (D : va_G) (cy : Nat → ClassId) (ld ad : Nat → Nat) (am : Nat) (hD : mz_D ad am) (Fa : Nat → Int32) (Ga : Nat → Int64) (Ra : Nat → Nat → Int32) (Sa : Nat → Nat → Int64) (hIF : mz_IF true Fa) (hIG : mz_IG Ga) (hIR : mz_IR [] true Ra) : Met l yX13_coughs (wl yX13_coughs cX13_coughs 1 (some .int)) ({ frames := 3, cells := 0, slots := 0, locals := 140 }) (mz_p D cy ld ad am Fa Ga Ra Sa [.ref am]) (mz_i D cy ad am (fun r F G R S => mz_IF true F ∧ mz_IG G ∧ mz_IR [] true R ∧ (∀ k : Nat, k ∉ ([0] : List Nat) → F k = Fa k) ∧ (∀ k : Nat, k ∉ ([] : List Nat) → R k = Ra k) ∧ (∀ k : Nat, k ∉ ([] : List Nat) → G k = Ga k))) 0 0 (mz_W ad am) := by
  refine mz_met (y := yX13_coughs) (cc := cX13_coughs) (maxL := 1) (ret := (some .int)) (av := [.ref am]) _ (by decide) (Nat.le_of_ble_eq_true rfl) ?_
  intro p e s m args below meth c hx hb hr hml hts htl hown hlocks hK H locs hM hS ls hl
  have hown : s.vm.findClass RX13 = some m.cls := hown
  have hl : lv_has ls 1 [(0, .ref am)] := hl
  refine lv_aload_n hx hb dX13_coughs_0 rfl (lv_at hl 0 rfl) ?_
  refine lv_iconst (v := 0) hx hb dX13_coughs_1 (by decide) ?_
  have hk_0 : (0 : Int32).toInt = 0 := by decide
  refine mz_putI (ty := .int) (x := 0) hx hb htl hown hK hD hM hS 0 (Nat.le_of_ble_eq_true rfl) rfl (htl _ mw_286) (fun _ h9 => h9) rfl (tyX13_ok 0 (by decide)) rfl rfl dX13_coughs_2 (fun H locs F hM hS hf9 hj9 => ?_)
  have hIF := hIF.put hf9 hj9 (tk_rng _).1 (tk_rng _).2 (by decide)
  have hFF := mz_frp (K := [0]) (Fa := Fa) hj9 (fun _ _ => rfl) (by decide)
  have hf2 := hf9
  refine lv_aload_n hx hb dX13_coughs_5 rfl (lv_at hl 0 rfl) ?_
  refine mz_getI hx hb htl hown hK hM 11 (Nat.le_of_ble_eq_true rfl) rfl (htl _ mw_453) (fun _ h9 => h9) dX13_coughs_6 (fun v4 hf3 => ?_)
  have hq_v4 := tk_rng v4
  exact mz_iret (v := v4) hx hb hr rfl hlocks ⟨hIF, hIG, hIR, hFF, (fun _ _ => rfl), (fun _ _ => rfl)⟩ hM hS dX13_coughs_9
theorem dX13_four_0 : decode cX13_four 0 = .ok (.bipush 24, 2) := by decide +kernel
theorem dX13_four_2 : decode cX13_four 2 = .ok (.istore_n 2, 1) := by decide +kernel
theorem dX13_four_3 : decode cX13_four 3 = .ok (.iload_n 2, 1) := by decide +kernel
theorem dX13_four_4 : decode cX13_four 4 = .ok (.ifCond .lt 35, 3) := by decide +kernel
theorem dX13_four_7 : decode cX13_four 7 = .ok (.aload_n 0, 1) := by decide +kernel
theorem dX13_four_8 : decode cX13_four 8 = .ok (.getfield 35, 3) := by decide +kernel
theorem dX13_four_11 : decode cX13_four 11 = .ok (.aload_n 0, 1) := by decide +kernel
theorem dX13_four_12 : decode cX13_four 12 = .ok (.getfield 224, 3) := by decide +kernel
theorem dX13_four_15 : decode cX13_four 15 = .ok (.iload_n 1, 1) := by decide +kernel
theorem dX13_four_16 : decode cX13_four 16 = .ok (.iload_n 2, 1) := by decide +kernel
theorem dX13_four_17 : decode cX13_four 17 = .ok (.ishr, 1) := by decide +kernel
theorem dX13_four_18 : decode cX13_four 18 = .ok (.sipush 255, 3) := by decide +kernel
theorem dX13_four_21 : decode cX13_four 21 = .ok (.iand, 1) := by decide +kernel
theorem dX13_four_22 : decode cX13_four 22 = .ok (.iastore, 1) := by decide +kernel
theorem dX13_four_23 : decode cX13_four 23 = .ok (.aload_n 0, 1) := by decide +kernel
theorem dX13_four_24 : decode cX13_four 24 = .ok (.dup, 1) := by decide +kernel
theorem dX13_four_25 : decode cX13_four 25 = .ok (.getfield 224, 3) := by decide +kernel
theorem dX13_four_28 : decode cX13_four 28 = .ok (.iconst 1, 1) := by decide +kernel
theorem dX13_four_29 : decode cX13_four 29 = .ok (.iadd, 1) := by decide +kernel
theorem dX13_four_30 : decode cX13_four 30 = .ok (.putfield 224, 3) := by decide +kernel
theorem dX13_four_33 : decode cX13_four 33 = .ok (.iinc 2 (-8), 3) := by decide +kernel
theorem dX13_four_36 : decode cX13_four 36 = .ok (.goto (-33), 3) := by decide +kernel
theorem dX13_four_39 : decode cX13_four 39 = .ok (.return_, 1) := by decide +kernel
set_option maxHeartbeats 4000000 in
set_option maxRecDepth 100000 in
theorem k_X13_four (l : Launch) (D : va_G) (cy : Nat → ClassId) (ld ad : Nat → Nat) (am : Nat) (hD : mz_D ad am) (Fa : Nat → Int32) (Ga : Nat → Int64) (Ra : Nat → Nat → Int32) (Sa : Nat → Nat → Int64) (p1 : Int32) (g0 : Int32) (hIF : mz_IF true Fa) (hIG : mz_IG Ga) (hIR : mz_IR [] true Ra) (hg_0 : Fa 13 = g0) (hp_0 : 0 ≤ g0.toInt) (hp_1 : g0.toInt ≤ 396) : Met l yX13_four (wl yX13_four cX13_four 3 none) ({ frames := 3, cells := 0, slots := 0, locals := 140 }) (mz_p D cy ld ad am Fa Ga Ra Sa [.ref am, .int p1]) (mz_w D cy ad am (fun F G R S => mz_IF true F ∧ mz_IG G ∧ mz_IR [] true R ∧ (∀ k : Nat, k ∉ ([13] : List Nat) → F k = Fa k) ∧ (∀ k : Nat, k ∉ ([12] : List Nat) → R k = Ra k) ∧ (∀ k : Nat, k ∉ ([] : List Nat) → G k = Ga k) ∧ (-1) * g0.toInt + (F 13).toInt + (-4) = 0)) 0 0 (mz_W ad am) := by
  refine mz_met (y := yX13_four) (cc := cX13_four) (maxL := 3) (ret := none) (av := [.ref am, .int p1]) _ (by decide) (Nat.le_of_ble_eq_true rfl) ?_
  intro p e s m args below meth c hx hb hr hml hts htl hown hlocks hK H locs hM hS ls hl
  have hown : s.vm.findClass RX13 = some m.cls := hown
  have hl : lv_has ls 3 [(0, .ref am), (1, .int p1)] := hl
  have hr_p1 := tk_rng p1
  have hq_g0 := tk_rng g0
  have hr_g0 : 0 ≤ g0.toInt ∧ g0.toInt ≤ 400 := hIF.at hg_0
  refine lv_bipush (v := 24) hx hb dX13_four_0 (by decide) ?_
  refine lv_istore_n (lv' := [(2, .int 24), (0, .ref am), (1, .int p1)]) hx hb dX13_four_2 rfl hl (by decide) rfl (fun ls hl => ?_)
  refine lv_iload_n hx hb dX13_four_3 rfl (lv_at hl 0 rfl) ?_
  refine lv_if_lt (tgt := 39) hx hb dX13_four_4 (by decide) (fun c9 => absurd c9 (by decide)) (fun _ => ?_)
  refine lv_aload_n hx hb dX13_four_7 rfl (lv_at hl 1 rfl) ?_
  refine mz_getR hx hb htl hown hK hM 12 (Nat.le_of_ble_eq_true rfl) (Nat.le_of_ble_eq_true rfl) (htl _ mw_195) (fun _ h9 => h9) dX13_four_8 ?_
  refine lv_aload_n hx hb dX13_four_11 rfl (lv_at hl 1 rfl) ?_
  refine mz_getI hx hb htl hown hK hM 13 (Nat.le_of_ble_eq_true rfl) rfl (htl _ mw_431) (fun _ h9 => h9) dX13_four_12 (fun v9 e9 => ?_)
  refine fx_ti (v := g0) (e9.symm.trans hg_0) ?_
  refine lv_iload_n hx hb dX13_four_15 rfl (lv_at hl 2 rfl) ?_
  refine lv_iload_n hx hb dX13_four_16 rfl (lv_at hl 0 rfl) ?_
  refine lv_ishr hx hb dX13_four_17 ?_
  refine tk_any (fun v1 => ?_)
  refine lv_sipush (v := 255) hx hb dX13_four_18 (by decide) ?_
  refine lv_iand hx hb dX13_four_21 ?_
  refine tk_say (P := fun z => 0 ≤ z.toInt ∧ z.toInt ≤ 255) (tk_and v1 8 (by decide) (by decide)) (fun v2 h_v2 => ?_)
  refine mz_iast (x := v2) hx hb hK hD hM hS 12 (Nat.le_of_ble_eq_true rfl) rfl (nn := 400) rfl rfl (by omega) (by omega) dX13_four_22 (fun H locs R hM hS hw9 hj9 => ?_)
  have hIR := hIR.put hw9 hj9 trivial
  have hRR := mz_frp (K := [12]) (Fa := Ra) hj9 (fun _ _ => rfl) (by decide)
  refine lv_aload_n hx hb dX13_four_23 rfl (lv_at hl 1 rfl) ?_
  refine lv_dup hx hb dX13_four_24 rfl ?_
  refine mz_getI hx hb htl hown hK hM 13 (Nat.le_of_ble_eq_true rfl) rfl (htl _ mw_431) (fun _ h9 => h9) dX13_four_25 (fun v9 e9 => ?_)
  refine fx_ti (v := g0) (e9.symm.trans hg_0) ?_
  refine lv_iconst (v := 1) hx hb dX13_four_28 (by decide) ?_
  refine lv_iadd hx hb dX13_four_29 ?_
  refine tk_add rfl (show (1 : Int32).toInt = 1 by decide) (by omega) (by omega) (fun v4 h_v4 => ?_)
  refine mz_putI (ty := .int) (x := v4) hx hb htl hown hK hD hM hS 13 (Nat.le_of_ble_eq_true rfl) rfl (htl _ mw_431) (fun _ h9 => h9) rfl (tyX13_ok 13 (by decide)) rfl rfl dX13_four_30 (fun H locs F hM hS hf9 hj9 => ?_)
  have hIF := hIF.put hf9 hj9 (show 0 ≤ (v4 : Int32).toInt by omega) (show (v4 : Int32).toInt ≤ 400 by omega) (by decide)
  have hFF := mz_frp (K := [13]) (Fa := Fa) hj9 (fun _ _ => rfl) (by decide)
  have hf6 := hf9
  refine lv_iinc (v := 16) (lv' := [(2, .int 16), (0, .ref am), (1, .int p1)]) hx hb dX13_four_33 hl (k := 0) rfl (by decide) (by decide) rfl (fun ls hl => ?_)
  refine lv_goto (tgt := 3) hx hb dX13_four_36 (by decide) ?_
  refine lv_iload_n hx hb dX13_four_3 rfl (lv_at hl 0 rfl) ?_
  refine lv_if_lt (tgt := 39) hx hb dX13_four_4 (by decide) (fun c9 => absurd c9 (by decide)) (fun _ => ?_)
  refine lv_aload_n hx hb dX13_four_7 rfl (lv_at hl 1 rfl) ?_
  refine mz_getR hx hb htl hown hK hM 12 (Nat.le_of_ble_eq_true rfl) (Nat.le_of_ble_eq_true rfl) (htl _ mw_195) (fun _ h9 => h9) dX13_four_8 ?_
  refine lv_aload_n hx hb dX13_four_11 rfl (lv_at hl 1 rfl) ?_
  refine mz_getI hx hb htl hown hK hM 13 (Nat.le_of_ble_eq_true rfl) rfl (htl _ mw_431) (fun _ h9 => h9) dX13_four_12 (fun v9 e9 => ?_)
  refine fx_ti (v := v4) (e9.symm.trans hf6) ?_
  refine lv_iload_n hx hb dX13_four_15 rfl (lv_at hl 2 rfl) ?_
  refine lv_iload_n hx hb dX13_four_16 rfl (lv_at hl 0 rfl) ?_
  refine lv_ishr hx hb dX13_four_17 ?_
  refine tk_any (fun v7 => ?_)
  refine lv_sipush (v := 255) hx hb dX13_four_18 (by decide) ?_
  refine lv_iand hx hb dX13_four_21 ?_
  refine tk_say (P := fun z => 0 ≤ z.toInt ∧ z.toInt ≤ 255) (tk_and v7 8 (by decide) (by decide)) (fun v8 h_v8 => ?_)
  refine mz_iast (x := v8) hx hb hK hD hM hS 12 (Nat.le_of_ble_eq_true rfl) rfl (nn := 400) rfl rfl (by omega) (by omega) dX13_four_22 (fun H locs R hM hS hw9 hj9 => ?_)
  have hIR := hIR.put hw9 hj9 trivial
  have hRR := mz_frp (K := [12]) (Fa := Ra) hj9 hRR (by decide)
  refine lv_aload_n hx hb dX13_four_23 rfl (lv_at hl 1 rfl) ?_
  refine lv_dup hx hb dX13_four_24 rfl ?_
  refine mz_getI hx hb htl hown hK hM 13 (Nat.le_of_ble_eq_true rfl) rfl (htl _ mw_431) (fun _ h9 => h9) dX13_four_25 (fun v9 e9 => ?_)
  refine fx_ti (v := v4) (e9.symm.trans hf6) ?_
  refine lv_iconst (v := 1) hx hb dX13_four_28 (by decide) ?_
  refine lv_iadd hx hb dX13_four_29 ?_
  refine tk_add rfl (show (1 : Int32).toInt = 1 by decide) (by omega) (by omega) (fun v10 h_v10 => ?_)
  refine mz_putI (ty := .int) (x := v10) hx hb htl hown hK hD hM hS 13 (Nat.le_of_ble_eq_true rfl) rfl (htl _ mw_431) (fun _ h9 => h9) rfl (tyX13_ok 13 (by decide)) rfl rfl dX13_four_30 (fun H locs F hM hS hf9 hj9 => ?_)
  have hIF := hIF.put hf9 hj9 (show 0 ≤ (v10 : Int32).toInt by omega) (show (v10 : Int32).toInt ≤ 400 by omega) (by decide)
  have hFF := mz_frp (K := [13]) (Fa := Fa) hj9 hFF (by decide)
  have hf12 := hf9
  refine lv_iinc (v := 8) (lv' := [(2, .int 8), (0, .ref am), (1, .int p1)]) hx hb dX13_four_33 hl (k := 0) rfl (by decide) (by decide) rfl (fun ls hl => ?_)
  refine lv_goto (tgt := 3) hx hb dX13_four_36 (by decide) ?_
  refine lv_iload_n hx hb dX13_four_3 rfl (lv_at hl 0 rfl) ?_
  refine lv_if_lt (tgt := 39) hx hb dX13_four_4 (by decide) (fun c9 => absurd c9 (by decide)) (fun _ => ?_)
  refine lv_aload_n hx hb dX13_four_7 rfl (lv_at hl 1 rfl) ?_
  refine mz_getR hx hb htl hown hK hM 12 (Nat.le_of_ble_eq_true rfl) (Nat.le_of_ble_eq_true rfl) (htl _ mw_195) (fun _ h9 => h9) dX13_four_8 ?_
  refine lv_aload_n hx hb dX13_four_11 rfl (lv_at hl 1 rfl) ?_
  refine mz_getI hx hb htl hown hK hM 13 (Nat.le_of_ble_eq_true rfl) rfl (htl _ mw_431) (fun _ h9 => h9) dX13_four_12 (fun v9 e9 => ?_)
  refine fx_ti (v := v10) (e9.symm.trans hf12) ?_
  refine lv_iload_n hx hb dX13_four_15 rfl (lv_at hl 2 rfl) ?_
  refine lv_iload_n hx hb dX13_four_16 rfl (lv_at hl 0 rfl) ?_
  refine lv_ishr hx hb dX13_four_17 ?_
  refine tk_any (fun v13 => ?_)
  refine lv_sipush (v := 255) hx hb dX13_four_18 (by decide) ?_
  refine lv_iand hx hb dX13_four_21 ?_
  refine tk_say (P := fun z => 0 ≤ z.toInt ∧ z.toInt ≤ 255) (tk_and v13 8 (by decide) (by decide)) (fun v14 h_v14 => ?_)
  refine mz_iast (x := v14) hx hb hK hD hM hS 12 (Nat.le_of_ble_eq_true rfl) rfl (nn := 400) rfl rfl (by omega) (by omega) dX13_four_22 (fun H locs R hM hS hw9 hj9 => ?_)
  have hIR := hIR.put hw9 hj9 trivial
  have hRR := mz_frp (K := [12]) (Fa := Ra) hj9 hRR (by decide)
  refine lv_aload_n hx hb dX13_four_23 rfl (lv_at hl 1 rfl) ?_
  refine lv_dup hx hb dX13_four_24 rfl ?_
  refine mz_getI hx hb htl hown hK hM 13 (Nat.le_of_ble_eq_true rfl) rfl (htl _ mw_431) (fun _ h9 => h9) dX13_four_25 (fun v9 e9 => ?_)
  refine fx_ti (v := v10) (e9.symm.trans hf12) ?_
  refine lv_iconst (v := 1) hx hb dX13_four_28 (by decide) ?_
  refine lv_iadd hx hb dX13_four_29 ?_
  refine tk_add rfl (show (1 : Int32).toInt = 1 by decide) (by omega) (by omega) (fun v16 h_v16 => ?_)
  refine mz_putI (ty := .int) (x := v16) hx hb htl hown hK hD hM hS 13 (Nat.le_of_ble_eq_true rfl) rfl (htl _ mw_431) (fun _ h9 => h9) rfl (tyX13_ok 13 (by decide)) rfl rfl dX13_four_30 (fun H locs F hM hS hf9 hj9 => ?_)
  have hIF := hIF.put hf9 hj9 (show 0 ≤ (v16 : Int32).toInt by omega) (show (v16 : Int32).toInt ≤ 400 by omega) (by decide)
  have hFF := mz_frp (K := [13]) (Fa := Fa) hj9 hFF (by decide)
  have hf18 := hf9
  refine lv_iinc (v := 0) (lv' := [(2, .int 0), (0, .ref am), (1, .int p1)]) hx hb dX13_four_33 hl (k := 0) rfl (by decide) (by decide) rfl (fun ls hl => ?_)
  refine lv_goto (tgt := 3) hx hb dX13_four_36 (by decide) ?_
  refine lv_iload_n hx hb dX13_four_3 rfl (lv_at hl 0 rfl) ?_
  refine lv_if_lt (tgt := 39) hx hb dX13_four_4 (by decide) (fun c9 => absurd c9 (by decide)) (fun _ => ?_)
  refine lv_aload_n hx hb dX13_four_7 rfl (lv_at hl 1 rfl) ?_
  refine mz_getR hx hb htl hown hK hM 12 (Nat.le_of_ble_eq_true rfl) (Nat.le_of_ble_eq_true rfl) (htl _ mw_195) (fun _ h9 => h9) dX13_four_8 ?_
  refine lv_aload_n hx hb dX13_four_11 rfl (lv_at hl 1 rfl) ?_
  refine mz_getI hx hb htl hown hK hM 13 (Nat.le_of_ble_eq_true rfl) rfl (htl _ mw_431) (fun _ h9 => h9) dX13_four_12 (fun v9 e9 => ?_)
  refine fx_ti (v := v16) (e9.symm.trans hf18) ?_
  refine lv_iload_n hx hb dX13_four_15 rfl (lv_at hl 2 rfl) ?_
  refine lv_iload_n hx hb dX13_four_16 rfl (lv_at hl 0 rfl) ?_
  refine lv_ishr hx hb dX13_four_17 ?_
  refine tk_any (fun v19 => ?_)
  refine lv_sipush (v := 255) hx hb dX13_four_18 (by decide) ?_
  refine lv_iand hx hb dX13_four_21 ?_
  refine tk_say (P := fun z => 0 ≤ z.toInt ∧ z.toInt ≤ 255) (tk_and v19 8 (by decide) (by decide)) (fun v20 h_v20 => ?_)
  refine mz_iast (x := v20) hx hb hK hD hM hS 12 (Nat.le_of_ble_eq_true rfl) rfl (nn := 400) rfl rfl (by omega) (by omega) dX13_four_22 (fun H locs R hM hS hw9 hj9 => ?_)
  have hIR := hIR.put hw9 hj9 trivial
  have hRR := mz_frp (K := [12]) (Fa := Ra) hj9 hRR (by decide)
  refine lv_aload_n hx hb dX13_four_23 rfl (lv_at hl 1 rfl) ?_
  refine lv_dup hx hb dX13_four_24 rfl ?_
  refine mz_getI hx hb htl hown hK hM 13 (Nat.le_of_ble_eq_true rfl) rfl (htl _ mw_431) (fun _ h9 => h9) dX13_four_25 (fun v9 e9 => ?_)
  refine fx_ti (v := v16) (e9.symm.trans hf18) ?_
  refine lv_iconst (v := 1) hx hb dX13_four_28 (by decide) ?_
  refine lv_iadd hx hb dX13_four_29 ?_
  refine tk_add rfl (show (1 : Int32).toInt = 1 by decide) (by omega) (by omega) (fun v22 h_v22 => ?_)
  refine mz_putI (ty := .int) (x := v22) hx hb htl hown hK hD hM hS 13 (Nat.le_of_ble_eq_true rfl) rfl (htl _ mw_431) (fun _ h9 => h9) rfl (tyX13_ok 13 (by decide)) rfl rfl dX13_four_30 (fun H locs F hM hS hf9 hj9 => ?_)
  have hIF := hIF.put hf9 hj9 (show 0 ≤ (v22 : Int32).toInt by omega) (show (v22 : Int32).toInt ≤ 400 by omega) (by decide)
  have hFF := mz_frp (K := [13]) (Fa := Fa) hj9 hFF (by decide)
  have hf24 := hf9
  refine lv_iinc (v := (-8)) (lv' := [(2, .int (-8)), (0, .ref am), (1, .int p1)]) hx hb dX13_four_33 hl (k := 0) rfl (by decide) (by decide) rfl (fun ls hl => ?_)
  refine lv_goto (tgt := 3) hx hb dX13_four_36 (by decide) ?_
  refine lv_iload_n hx hb dX13_four_3 rfl (lv_at hl 0 rfl) ?_
  refine lv_if_lt (tgt := 39) hx hb dX13_four_4 (by decide) (fun _ => ?_) (fun c9 => absurd (by decide) c9)
  exact mz_vret hx hb hr hlocks ⟨hIF, hIG, hIR, hFF, hRR, (fun _ _ => rfl), (by rw [hf24]; omega)⟩ hM hS dX13_four_39
theorem hd_yX13_four : yX13_four.cls ≠ "java/lang/invoke/MethodHandle" ∧ yX13_four.cls ≠ "java/lang/invoke/VarHandle" ∧ (parseMethodDescriptor yX13_four.desc).map (fun d => d.parameters.length) = some 1 := by decide +kernel
theorem dX13_feed_0 : decode cX13_feed 0 = .ok (.aload_n 0, 1) := by decide +kernel
theorem dX13_feed_1 : decode cX13_feed 1 = .ok (.iconst 0, 1) := by decide +kernel
theorem dX13_feed_2 : decode cX13_feed 2 = .ok (.putfield 170, 3) := by decide +kernel
theorem dX13_feed_5 : decode cX13_feed 5 = .ok (.aload_n 0, 1) := by decide +kernel
theorem dX13_feed_6 : decode cX13_feed 6 = .ok (.getfield 224, 3) := by decide +kernel
theorem dX13_feed_9 : decode cX13_feed 9 = .ok (.bipush 20, 2) := by decide +kernel
theorem dX13_feed_11 : decode cX13_feed 11 = .ok (.iadd, 1) := by decide +kernel
theorem dX13_feed_12 : decode cX13_feed 12 = .ok (.sipush 400, 3) := by decide +kernel
theorem dX13_feed_15 : decode cX13_feed 15 = .ok (.if_icmp .le 5, 3) := by decide +kernel
theorem dX13_feed_20 : decode cX13_feed 20 = .ok (.aload_n 0, 1) := by decide +kernel
theorem dX13_feed_21 : decode cX13_feed 21 = .ok (.iload_n 1, 1) := by decide +kernel
theorem dX13_feed_22 : decode cX13_feed 22 = .ok (.invokevirtual 230, 3) := by decide +kernel
theorem dX13_feed_25 : decode cX13_feed 25 = .ok (.aload_n 0, 1) := by decide +kernel
theorem dX13_feed_26 : decode cX13_feed 26 = .ok (.iload_n 2, 1) := by decide +kernel
theorem dX13_feed_27 : decode cX13_feed 27 = .ok (.invokevirtual 230, 3) := by decide +kernel
theorem dX13_feed_30 : decode cX13_feed 30 = .ok (.aload_n 0, 1) := by decide +kernel
theorem dX13_feed_31 : decode cX13_feed 31 = .ok (.iload_n 3, 1) := by decide +kernel
theorem dX13_feed_32 : decode cX13_feed 32 = .ok (.invokevirtual 230, 3) := by decide +kernel
theorem dX13_feed_35 : decode cX13_feed 35 = .ok (.aload_n 0, 1) := by decide +kernel
theorem dX13_feed_36 : decode cX13_feed 36 = .ok (.iload 4, 2) := by decide +kernel
theorem dX13_feed_38 : decode cX13_feed 38 = .ok (.invokevirtual 230, 3) := by decide +kernel
theorem dX13_feed_41 : decode cX13_feed 41 = .ok (.aload_n 0, 1) := by decide +kernel
theorem dX13_feed_42 : decode cX13_feed 42 = .ok (.iload 5, 2) := by decide +kernel
theorem dX13_feed_44 : decode cX13_feed 44 = .ok (.invokevirtual 230, 3) := by decide +kernel
theorem dX13_feed_47 : decode cX13_feed 47 = .ok (.aload_n 0, 1) := by decide +kernel
theorem dX13_feed_48 : decode cX13_feed 48 = .ok (.getfield 224, 3) := by decide +kernel
theorem dX13_feed_51 : decode cX13_feed 51 = .ok (.ireturn, 1) := by decide +kernel
theorem dX13_feed_18 : decode cX13_feed 18 = .ok (.iconst (-1), 1) := by decide +kernel
theorem dX13_feed_19 : decode cX13_feed 19 = .ok (.ireturn, 1) := by decide +kernel
set_option maxHeartbeats 4000000 in
set_option maxRecDepth 100000 in
theorem k_X13_feed (l : Launch) (D : va_G) (cy : Nat → ClassId) (ld ad : Nat → Nat) (am : Nat) (hD : mz_D ad am) (Fa : Nat → Int32) (Ga : Nat → Int64) (Ra : Nat → Nat → Int32) (Sa : Nat → Nat → Int64) (p1 : Int32) (p2 : Int32) (p3 : Int32) (p4 : Int32) (p5 : Int32) (hIF : mz_IF true Fa) (hIG : mz_IG Ga) (hIR : mz_IR [] true Ra) : Met l yX13_feed (wl yX13_feed cX13_feed 6 (some .int)) ({ frames := 4, cells := 0, slots := 0, locals := 210 }) (mz_p D cy ld ad am Fa Ga Ra Sa [.ref am, .int p1, .int p2, .int p3, .int p4, .int p5]) (mz_i D cy ad am (fun r F G R S => mz_IF true F ∧ mz_IG G ∧ mz_IR [] true R ∧ (∀ k : Nat, k ∉ ([0, 13] : List Nat) → F k = Fa k) ∧ (∀ k : Nat, k ∉ ([12] : List Nat) → R k = Ra k) ∧ (∀ k : Nat, k ∉ ([] : List Nat) → G k = Ga k) ∧ (-1) ≤ r.toInt ∧ r.toInt ≤ 400)) 0 0 (mz_W ad am) := by
  refine mz_met (y := yX13_feed) (cc := cX13_feed) (maxL := 6) (ret := (some .int)) (av := [.ref am, .int p1, .int p2, .int p3, .int p4, .int p5]) _ (by decide) (Nat.le_of_ble_eq_true rfl) ?_
  intro p e s m args below meth c hx hb hr hml hts htl hown hlocks hK H locs hM hS ls hl
  have hown : s.vm.findClass RX13 = some m.cls := hown
  have hl : lv_has ls 6 [(0, .ref am), (1, .int p1), (2, .int p2), (3, .int p3), (4, .int p4), (5, .int p5)] := hl
  have hr_p1 := tk_rng p1
  have hr_p2 := tk_rng p2
  have hr_p3 := tk_rng p3
  have hr_p4 := tk_rng p4
  have hr_p5 := tk_rng p5
  refine lv_aload_n hx hb dX13_feed_0 rfl (lv_at hl 0 rfl) ?_
  refine lv_iconst (v := 0) hx hb dX13_feed_1 (by decide) ?_
  have hk_0 : (0 : Int32).toInt = 0 := by decide
  refine mz_putI (ty := .int) (x := 0) hx hb htl hown hK hD hM hS 0 (Nat.le_of_ble_eq_true rfl) rfl (htl _ mw_286) (fun _ h9 => h9) rfl (tyX13_ok 0 (by decide)) rfl rfl dX13_feed_2 (fun H locs F hM hS hf9 hj9 => ?_)
  have hIF := hIF.put hf9 hj9 (tk_rng _).1 (tk_rng _).2 (by decide)
  have hFF := mz_frp (K := [0, 13]) (Fa := Fa) hj9 (fun _ _ => rfl) (by decide)
  have hf2 := hf9
  refine lv_aload_n hx hb dX13_feed_5 rfl (lv_at hl 0 rfl) ?_
  refine mz_getI hx hb htl hown hK hM 13 (Nat.le_of_ble_eq_true rfl) rfl (htl _ mw_431) (fun _ h9 => h9) dX13_feed_6 (fun v4 hf3 => ?_)
  have hq_v4 := tk_rng v4
  have hr_v4 : 0 ≤ v4.toInt ∧ v4.toInt ≤ 400 := hIF.at hf3
  refine lv_bipush (v := 20) hx hb dX13_feed_9 (by decide) ?_
  refine lv_iadd hx hb dX13_feed_11 ?_
  refine tk_add rfl (show (20 : Int32).toInt = 20 by decide) (by omega) (by omega) (fun v5 h_v5 => ?_)
  refine lv_sipush (v := 400) hx hb dX13_feed_12 (by decide) ?_
  refine lv_icmp_le (tgt := 20) hx hb dX13_feed_15 (by decide) (fun c9 => ?_) (fun c9 => ?_)
  · have hc6 : v5.toInt ≤ 400 := (fi_le rfl (show (400 : Int32).toInt = 400 by decide)).mp c9
    refine lv_aload_n hx hb dX13_feed_20 rfl (lv_at hl 0 rfl) ?_
    refine lv_iload_n hx hb dX13_feed_21 rfl (lv_at hl 1 rfl) ?_
    refine mz_Vv (As := [.int p1]) (rest := []) ⟨hx, hb, hml, hown, hts⟩ hK hM hS (k_X13_four l D cy ld ad am hD _ _ _ _ p1 v4 hIF hIG hIR hf3 (by omega) (by omega)) ⟨callB_of 1 hts (wl_in mw_435) rfl rfl rfl (htl _ mw_5) (htl _ mw_432) hd_yX13_four ⟨(Nat.le_of_ble_eq_true rfl), (Nat.le_of_ble_eq_true rfl)⟩, htl _ mw_433, htl _ mw_434⟩ rfl hl.1 rfl (Nat.le_of_ble_eq_true rfl) dX13_feed_22 ⟨(Nat.le_of_ble_eq_true rfl), (Nat.le_of_ble_eq_true rfl)⟩ (fun H locs F G R S hpo hM hS => ?_)
    obtain ⟨hIF, hIG, hIR, hfr9, hrr9, hgr9, hpo7⟩ := hpo
    have hFF := mz_fr (K := [0, 13]) (Fa := Fa) hfr9 hFF (by decide)
    have hRR := mz_fr (K := [12]) (Fa := Ra) hrr9 (fun _ _ => rfl) (by decide)
    have hGG := mz_fr (K := []) (Fa := Ga) hgr9 (fun _ _ => rfl) (by decide)
    have hf2 := (hfr9 0 (by decide)).trans hf2
    obtain ⟨v10, hf9⟩ : ∃ z : Int32, F 13 = z := ⟨_, rfl⟩
    have hq_v10 := tk_rng v10
    rw [hf9] at hpo7
    have hr_v10 : 0 ≤ v10.toInt ∧ v10.toInt ≤ 400 := hIF.at hf9
    refine lv_aload_n hx hb dX13_feed_25 rfl (lv_at hl 0 rfl) ?_
    refine lv_iload_n hx hb dX13_feed_26 rfl (lv_at hl 2 rfl) ?_
    refine mz_Vv (As := [.int p2]) (rest := []) ⟨hx, hb, hml, hown, hts⟩ hK hM hS (k_X13_four l D cy ld ad am hD _ _ _ _ p2 v10 hIF hIG hIR hf9 (by omega) (by omega)) ⟨callB_of 1 hts (wl_in mw_435) rfl rfl rfl (htl _ mw_5) (htl _ mw_432) hd_yX13_four ⟨(Nat.le_of_ble_eq_true rfl), (Nat.le_of_ble_eq_true rfl)⟩, htl _ mw_433, htl _ mw_434⟩ rfl hl.1 rfl (Nat.le_of_ble_eq_true rfl) dX13_feed_27 ⟨(Nat.le_of_ble_eq_true rfl), (Nat.le_of_ble_eq_true rfl)⟩ (fun H locs F G R S hpo hM hS => ?_)
    obtain ⟨hIF, hIG, hIR, hfr9, hrr9, hgr9, hpo11⟩ := hpo
    have hFF := mz_fr (K := [0, 13]) (Fa := Fa) hfr9 hFF (by decide)
    have hRR := mz_fr (K := [12]) (Fa := Ra) hrr9 hRR (by decide)
    have hGG := mz_fr (K := []) (Fa := Ga) hgr9 hGG (by decide)
    have hf2 := (hfr9 0 (by decide)).trans hf2
    obtain ⟨v14, hf13⟩ : ∃ z : Int32, F 13 = z := ⟨_, rfl⟩
    have hq_v14 := tk_rng v14
    rw [hf13] at hpo11
    have hr_v14 : 0 ≤ v14.toInt ∧ v14.toInt ≤ 400 := hIF.at hf13
    refine lv_aload_n hx hb dX13_feed_30 rfl (lv_at hl 0 rfl) ?_
    refine lv_iload_n hx hb dX13_feed_31 rfl (lv_at hl 3 rfl) ?_
    refine mz_Vv (As := [.int p3]) (rest := []) ⟨hx, hb, hml, hown, hts⟩ hK hM hS (k_X13_four l D cy ld ad am hD _ _ _ _ p3 v14 hIF hIG hIR hf13 (by omega) (by omega)) ⟨callB_of 1 hts (wl_in mw_435) rfl rfl rfl (htl _ mw_5) (htl _ mw_432) hd_yX13_four ⟨(Nat.le_of_ble_eq_true rfl), (Nat.le_of_ble_eq_true rfl)⟩, htl _ mw_433, htl _ mw_434⟩ rfl hl.1 rfl (Nat.le_of_ble_eq_true rfl) dX13_feed_32 ⟨(Nat.le_of_ble_eq_true rfl), (Nat.le_of_ble_eq_true rfl)⟩ (fun H locs F G R S hpo hM hS => ?_)
    obtain ⟨hIF, hIG, hIR, hfr9, hrr9, hgr9, hpo15⟩ := hpo
    have hFF := mz_fr (K := [0, 13]) (Fa := Fa) hfr9 hFF (by decide)
    have hRR := mz_fr (K := [12]) (Fa := Ra) hrr9 hRR (by decide)
    have hGG := mz_fr (K := []) (Fa := Ga) hgr9 hGG (by decide)
    have hf2 := (hfr9 0 (by decide)).trans hf2
    obtain ⟨v18, hf17⟩ : ∃ z : Int32, F 13 = z := ⟨_, rfl⟩
    have hq_v18 := tk_rng v18
    rw [hf17] at hpo15
    have hr_v18 : 0 ≤ v18.toInt ∧ v18.toInt ≤ 400 := hIF.at hf17
    refine lv_aload_n hx hb dX13_feed_35 rfl (lv_at hl 0 rfl) ?_
    refine lv_iload hx hb dX13_feed_36 (lv_at hl 4 rfl) ?_
    refine mz_Vv (As := [.int p4]) (rest := []) ⟨hx, hb, hml, hown, hts⟩ hK hM hS (k_X13_four l D cy ld ad am hD _ _ _ _ p4 v18 hIF hIG hIR hf17 (by omega) (by omega)) ⟨callB_of 1 hts (wl_in mw_435) rfl rfl rfl (htl _ mw_5) (htl _ mw_432) hd_yX13_four ⟨(Nat.le_of_ble_eq_true rfl), (Nat.le_of_ble_eq_true rfl)⟩, htl _ mw_433, htl _ mw_434⟩ rfl hl.1 rfl (Nat.le_of_ble_eq_true rfl) dX13_feed_38 ⟨(Nat.le_of_ble_eq_true rfl), (Nat.le_of_ble_eq_true rfl)⟩ (fun H locs F G R S hpo hM hS => ?_)
    obtain ⟨hIF, hIG, hIR, hfr9, hrr9, hgr9, hpo19⟩ := hpo
    have hFF := mz_fr (K := [0, 13]) (Fa := Fa) hfr9 hFF (by decide)
    have hRR := mz_fr (K := [12]) (Fa := Ra) hrr9 hRR (by decide)
    have hGG := mz_fr (K := []) (Fa := Ga) hgr9 hGG (by decide)
    have hf2 := (hfr9 0 (by decide)).trans hf2
    obtain ⟨v22, hf21⟩ : ∃ z : Int32, F 13 = z := ⟨_, rfl⟩
    have hq_v22 := tk_rng v22
    rw [hf21] at hpo19
    have hr_v22 : 0 ≤ v22.toInt ∧ v22.toInt ≤ 400 := hIF.at hf21
    refine lv_aload_n hx hb dX13_feed_41 rfl (lv_at hl 0 rfl) ?_
    refine lv_iload hx hb dX13_feed_42 (lv_at hl 5 rfl) ?_
    refine mz_Vv (As := [.int p5]) (rest := []) ⟨hx, hb, hml, hown, hts⟩ hK hM hS (k_X13_four l D cy ld ad am hD _ _ _ _ p5 v22 hIF hIG hIR hf21 (by omega) (by omega)) ⟨callB_of 1 hts (wl_in mw_435) rfl rfl rfl (htl _ mw_5) (htl _ mw_432) hd_yX13_four ⟨(Nat.le_of_ble_eq_true rfl), (Nat.le_of_ble_eq_true rfl)⟩, htl _ mw_433, htl _ mw_434⟩ rfl hl.1 rfl (Nat.le_of_ble_eq_true rfl) dX13_feed_44 ⟨(Nat.le_of_ble_eq_true rfl), (Nat.le_of_ble_eq_true rfl)⟩ (fun H locs F G R S hpo hM hS => ?_)
    obtain ⟨hIF, hIG, hIR, hfr9, hrr9, hgr9, hpo23⟩ := hpo
    have hFF := mz_fr (K := [0, 13]) (Fa := Fa) hfr9 hFF (by decide)
    have hRR := mz_fr (K := [12]) (Fa := Ra) hrr9 hRR (by decide)
    have hGG := mz_fr (K := []) (Fa := Ga) hgr9 hGG (by decide)
    have hf2 := (hfr9 0 (by decide)).trans hf2
    obtain ⟨v26, hf25⟩ : ∃ z : Int32, F 13 = z := ⟨_, rfl⟩
    have hq_v26 := tk_rng v26
    rw [hf25] at hpo23
    have hr_v26 : 0 ≤ v26.toInt ∧ v26.toInt ≤ 400 := hIF.at hf25
    refine lv_aload_n hx hb dX13_feed_47 rfl (lv_at hl 0 rfl) ?_
    refine mz_getI hx hb htl hown hK hM 13 (Nat.le_of_ble_eq_true rfl) rfl (htl _ mw_431) (fun _ h9 => h9) dX13_feed_48 (fun v9 e9 => ?_)
    refine fx_ti (v := v26) (e9.symm.trans hf25) ?_
    exact mz_iret (v := v26) hx hb hr rfl hlocks ⟨hIF, hIG, hIR, hFF, hRR, hGG, (by omega), (by omega)⟩ hM hS dX13_feed_51
  · have hc6 : ¬ (v5.toInt ≤ 400) := fun h9 => c9 ((fi_le rfl (show (400 : Int32).toInt = 400 by decide)).mpr h9)
    refine lv_iconst (v := (-1)) hx hb dX13_feed_18 (by decide) ?_
    have hk_m1 : ((-1) : Int32).toInt = (-1) := by decide
    exact mz_iret (v := (-1)) hx hb hr rfl hlocks ⟨hIF, hIG, hIR, hFF, (fun _ _ => rfl), (fun _ _ => rfl), (by omega), (by omega)⟩ hM hS dX13_feed_19
theorem dX13_end_0 : decode cX13_end 0 = .ok (.aload_n 0, 1) := by decide +kernel
theorem dX13_end_1 : decode cX13_end 1 = .ok (.iconst 0, 1) := by decide +kernel
theorem dX13_end_2 : decode cX13_end 2 = .ok (.putfield 170, 3) := by decide +kernel
theorem dX13_end_5 : decode cX13_end 5 = .ok (.iload_n 1, 1) := by decide +kernel
theorem dX13_end_6 : decode cX13_end 6 = .ok (.ifCond .lt 11, 3) := by decide +kernel
theorem dX13_end_17 : decode cX13_end 17 = .ok (.iconst (-1), 1) := by decide +kernel
theorem dX13_end_18 : decode cX13_end 18 = .ok (.ireturn, 1) := by decide +kernel
theorem dX13_end_9 : decode cX13_end 9 = .ok (.iload_n 1, 1) := by decide +kernel
theorem dX13_end_10 : decode cX13_end 10 = .ok (.aload_n 0, 1) := by decide +kernel
theorem dX13_end_11 : decode cX13_end 11 = .ok (.getfield 224, 3) := by decide +kernel
theorem dX13_end_14 : decode cX13_end 14 = .ok (.if_icmp .le 5, 3) := by decide +kernel
theorem dX13_end_19 : decode cX13_end 19 = .ok (.aload_n 0, 1) := by decide +kernel
theorem dX13_end_20 : decode cX13_end 20 = .ok (.iload_n 1, 1) := by decide +kernel
theorem dX13_end_21 : decode cX13_end 21 = .ok (.putfield 224, 3) := by decide +kernel
theorem dX13_end_24 : decode cX13_end 24 = .ok (.iload_n 1, 1) := by decide +kernel
theorem dX13_end_25 : decode cX13_end 25 = .ok (.ireturn, 1) := by decide +kernel
set_option maxHeartbeats 4000000 in
set_option maxRecDepth 100000 in
theorem k_X13_end (l : Launch) (D : va_G) (cy : Nat → ClassId) (ld ad : Nat → Nat) (am : Nat) (hD : mz_D ad am) (Fa : Nat → Int32) (Ga : Nat → Int64) (Ra : Nat → Nat → Int32) (Sa : Nat → Nat → Int64) (p1 : Int32) (hIF : mz_IF true Fa) (hIG : mz_IG Ga) (hIR : mz_IR [] true Ra) : Met l yX13_end (wl yX13_end cX13_end 2 (some .int)) ({ frames := 3, cells := 0, slots := 0, locals := 140 }) (mz_p D cy ld ad am Fa Ga Ra Sa [.ref am, .int p1]) (mz_i D cy ad am (fun r F G R S => mz_IF true F ∧ mz_IG G ∧ mz_IR [] true R ∧ (∀ k : Nat, k ∉ ([0, 13] : List Nat) → F k = Fa k) ∧ (∀ k : Nat, k ∉ ([] : List Nat) → R k = Ra k) ∧ (∀ k : Nat, k ∉ ([] : List Nat) → G k = Ga k) ∧ (-1) ≤ r.toInt ∧ r.toInt ≤ 400)) 0 0 (mz_W ad am) := by
  refine mz_met (y := yX13_end) (cc := cX13_end) (maxL := 2) (ret := (some .int)) (av := [.ref am, .int p1]) _ (by decide) (Nat.le_of_ble_eq_true rfl) ?_
  intro p e s m args below meth c hx hb hr hml hts htl hown hlocks hK H locs hM hS ls hl
  have hown : s.vm.findClass RX13 = some m.cls := hown
  have hl : lv_has ls 2 [(0, .ref am), (1, .int p1)] := hl
  have hr_p1 := tk_rng p1
  refine lv_aload_n hx hb dX13_end_0 rfl (lv_at hl 0 rfl) ?_
  refine lv_iconst (v := 0) hx hb dX13_end_1 (by decide) ?_
  have hk_0 : (0 : Int32).toInt = 0 := by decide
  refine mz_putI (ty := .int) (x := 0) hx hb htl hown hK hD hM hS 0 (Nat.le_of_ble_eq_true rfl) rfl (htl _ mw_286) (fun _ h9 => h9) rfl (tyX13_ok 0 (by decide)) rfl rfl dX13_end_2 (fun H locs F hM hS hf9 hj9 => ?_)
  have hIF := hIF.put hf9 hj9 (tk_rng _).1 (tk_rng _).2 (by decide)
  have hFF := mz_frp (K := [0, 13]) (Fa := Fa) hj9 (fun _ _ => rfl) (by decide)
  have hf2 := hf9
  refine lv_iload_n hx hb dX13_end_5 rfl (lv_at hl 1 rfl) ?_
  refine lv_if_lt (tgt := 17) hx hb dX13_end_6 (by decide) (fun c9 => ?_) (fun c9 => ?_)
  · have hc3 : p1.toInt < 0 := (fi_lt rfl (show (0 : Int32).toInt = 0 by decide)).mp c9
    refine lv_iconst (v := (-1)) hx hb dX13_end_17 (by decide) ?_
    have hk_m1 : ((-1) : Int32).toInt = (-1) := by decide
    exact mz_iret (v := (-1)) hx hb hr rfl hlocks ⟨hIF, hIG, hIR, hFF, (fun _ _ => rfl), (fun _ _ => rfl), (by omega), (by omega)⟩ hM hS dX13_end_18
  · have hc3 : ¬ (p1.toInt < 0) := fun h9 => c9 ((fi_lt rfl (show (0 : Int32).toInt = 0 by decide)).mpr h9)
    refine lv_iload_n hx hb dX13_end_9 rfl (lv_at hl 1 rfl) ?_
    refine lv_aload_n hx hb dX13_end_10 rfl (lv_at hl 0 rfl) ?_
    refine mz_getI hx hb htl hown hK hM 13 (Nat.le_of_ble_eq_true rfl) rfl (htl _ mw_431) (fun _ h9 => h9) dX13_end_11 (fun v5 hf4 => ?_)
    have hq_v5 := tk_rng v5
    have hr_v5 : 0 ≤ v5.toInt ∧ v5.toInt ≤ 400 := hIF.at hf4
    refine lv_icmp_le (tgt := 19) hx hb dX13_end_14 (by decide) (fun c9 => ?_) (fun c9 => ?_)
    · have hc6 : p1.toInt ≤ v5.toInt := (fi_le rfl rfl).mp c9
      refine lv_aload_n hx hb dX13_end_19 rfl (lv_at hl 0 rfl) ?_
      refine lv_iload_n hx hb dX13_end_20 rfl (lv_at hl 1 rfl) ?_
      refine mz_putI (ty := .int) (x := p1) hx hb htl hown hK hD hM hS 13 (Nat.le_of_ble_eq_true rfl) rfl (htl _ mw_431) (fun _ h9 => h9) rfl (tyX13_ok 13 (by decide)) rfl rfl dX13_end_21 (fun H locs F hM hS hf9 hj9 => ?_)
      have hIF := hIF.put hf9 hj9 (show 0 ≤ (p1 : Int32).toInt by omega) (show (p1 : Int32).toInt ≤ 400 by omega) (by decide)
      have hFF := mz_frp (K := [0, 13]) (Fa := Fa) hj9 hFF (by decide)
      have hf2 := (hj9 0 (by decide)).trans hf2
      have hf8 := hf9
      refine lv_iload_n hx hb dX13_end_24 rfl (lv_at hl 1 rfl) ?_
      exact mz_iret (v := p1) hx hb hr rfl hlocks ⟨hIF, hIG, hIR, hFF, (fun _ _ => rfl), (fun _ _ => rfl), (by omega), (by omega)⟩ hM hS dX13_end_25
    · have hc6 : ¬ (p1.toInt ≤ v5.toInt) := fun h9 => c9 ((fi_le rfl rfl).mpr h9)
      refine lv_iconst (v := (-1)) hx hb dX13_end_17 (by decide) ?_
      have hk_m1 : ((-1) : Int32).toInt = (-1) := by decide
      exact mz_iret (v := (-1)) hx hb hr rfl hlocks ⟨hIF, hIG, hIR, hFF, (fun _ _ => rfl), (fun _ _ => rfl), (by omega), (by omega)⟩ hM hS dX13_end_18
theorem dX13_isSmall_0 : decode cX13_isSmall 0 = .ok (.iload_n 0, 1) := by decide +kernel
theorem dX13_isSmall_1 : decode cX13_isSmall 1 = .ok (.bipush 97, 2) := by decide +kernel
theorem dX13_isSmall_3 : decode cX13_isSmall 3 = .ok (.if_icmp .lt 13, 3) := by decide +kernel
theorem dX13_isSmall_16 : decode cX13_isSmall 16 = .ok (.iconst 0, 1) := by decide +kernel
theorem dX13_isSmall_17 : decode cX13_isSmall 17 = .ok (.ireturn, 1) := by decide +kernel
theorem dX13_isSmall_6 : decode cX13_isSmall 6 = .ok (.iload_n 0, 1) := by decide +kernel
theorem dX13_isSmall_7 : decode cX13_isSmall 7 = .ok (.bipush 122, 2) := by decide +kernel
theorem dX13_isSmall_9 : decode cX13_isSmall 9 = .ok (.if_icmp .gt 7, 3) := by decide +kernel
theorem dX13_isSmall_12 : decode cX13_isSmall 12 = .ok (.iconst 1, 1) := by decide +kernel
theorem dX13_isSmall_13 : decode cX13_isSmall 13 = .ok (.goto 4, 3) := by decide +kernel
set_option maxHeartbeats 4000000 in
set_option maxRecDepth 100000 in
theorem k_X13_isSmall (l : Launch) (D : va_G) (cy : Nat → ClassId) (ld ad : Nat → Nat) (am : Nat) (hD : mz_D ad am) (Fa : Nat → Int32) (Ga : Nat → Int64) (Ra : Nat → Nat → Int32) (Sa : Nat → Nat → Int64) (p0 : Int32) : Met l yX13_isSmall (wl yX13_isSmall cX13_isSmall 1 (some .boolean)) ({ frames := 3, cells := 0, slots := 0, locals := 140 }) (mz_p D cy ld ad am Fa Ga Ra Sa [.int p0]) (mz_j D cy ad am Fa Ga Ra Sa (fun r => 0 ≤ r.toInt ∧ r.toInt ≤ 1 ∧ 0 ≤ r.toInt ∧ r.toInt ≤ 1)) 0 0 (mz_W ad am) := by
  refine mz_met (y := yX13_isSmall) (cc := cX13_isSmall) (maxL := 1) (ret := (some .boolean)) (av := [.int p0]) _ (by decide) (Nat.le_of_ble_eq_true rfl) ?_
  intro p e s m args below meth c hx hb hr hml hts htl hown hlocks hK H locs hM hS ls hl
  have hown : s.vm.findClass RX13 = some m.cls := hown
  have hl : lv_has ls 1 [(0, .int p0)] := hl
  have hr_p0 := tk_rng p0
  refine lv_iload_n hx hb dX13_isSmall_0 rfl (lv_at hl 0 rfl) ?_
  refine lv_bipush (v := 97) hx hb dX13_isSmall_1 (by decide) ?_
  refine lv_icmp_lt (tgt := 16) hx hb dX13_isSmall_3 (by decide) (fun c9 => ?_) (fun c9 => ?_)
  · have hc1 : p0.toInt < 97 := (fi_lt rfl (show (97 : Int32).toInt = 97 by decide)).mp c9
    refine lv_iconst (v := 0) hx hb dX13_isSmall_16 (by decide) ?_
    have hk_0 : (0 : Int32).toInt = 0 := by decide
    exact mz_jret (v := 0) hx hb hr rfl hlocks ⟨(by omega), (by omega), (by omega), (by omega)⟩ hM hS dX13_isSmall_17
  · have hc1 : ¬ (p0.toInt < 97) := fun h9 => c9 ((fi_lt rfl (show (97 : Int32).toInt = 97 by decide)).mpr h9)
    refine lv_iload_n hx hb dX13_isSmall_6 rfl (lv_at hl 0 rfl) ?_
    refine lv_bipush (v := 122) hx hb dX13_isSmall_7 (by decide) ?_
    refine lv_icmp_gt (tgt := 16) hx hb dX13_isSmall_9 (by decide) (fun c9 => ?_) (fun c9 => ?_)
    · have hc2 : 122 < p0.toInt := (fi_lt (show (122 : Int32).toInt = 122 by decide) rfl).mp c9
      refine lv_iconst (v := 0) hx hb dX13_isSmall_16 (by decide) ?_
      have hk_0 : (0 : Int32).toInt = 0 := by decide
      exact mz_jret (v := 0) hx hb hr rfl hlocks ⟨(by omega), (by omega), (by omega), (by omega)⟩ hM hS dX13_isSmall_17
    · have hc2 : ¬ (122 < p0.toInt) := fun h9 => c9 ((fi_lt (show (122 : Int32).toInt = 122 by decide) rfl).mpr h9)
      refine lv_iconst (v := 1) hx hb dX13_isSmall_12 (by decide) ?_
      refine lv_goto (tgt := 17) hx hb dX13_isSmall_13 (by decide) ?_
      have hk_1 : (1 : Int32).toInt = 1 := by decide
      exact mz_jret (v := 1) hx hb hr rfl hlocks ⟨(by omega), (by omega), (by omega), (by omega)⟩ hM hS dX13_isSmall_17
theorem dX13_isDigit_0 : decode cX13_isDigit 0 = .ok (.iload_n 0, 1) := by decide +kernel
theorem dX13_isDigit_1 : decode cX13_isDigit 1 = .ok (.bipush 48, 2) := by decide +kernel
theorem dX13_isDigit_3 : decode cX13_isDigit 3 = .ok (.if_icmp .lt 13, 3) := by decide +kernel
theorem dX13_isDigit_16 : decode cX13_isDigit 16 = .ok (.iconst 0, 1) := by decide +kernel
theorem dX13_isDigit_17 : decode cX13_isDigit 17 = .ok (.ireturn, 1) := by decide +kernel
theorem dX13_isDigit_6 : decode cX13_isDigit 6 = .ok (.iload_n 0, 1) := by decide +kernel
theorem dX13_isDigit_7 : decode cX13_isDigit 7 = .ok (.bipush 57, 2) := by decide +kernel
theorem dX13_isDigit_9 : decode cX13_isDigit 9 = .ok (.if_icmp .gt 7, 3) := by decide +kernel
theorem dX13_isDigit_12 : decode cX13_isDigit 12 = .ok (.iconst 1, 1) := by decide +kernel
theorem dX13_isDigit_13 : decode cX13_isDigit 13 = .ok (.goto 4, 3) := by decide +kernel
set_option maxHeartbeats 4000000 in
set_option maxRecDepth 100000 in
theorem k_X13_isDigit (l : Launch) (D : va_G) (cy : Nat → ClassId) (ld ad : Nat → Nat) (am : Nat) (hD : mz_D ad am) (Fa : Nat → Int32) (Ga : Nat → Int64) (Ra : Nat → Nat → Int32) (Sa : Nat → Nat → Int64) (p0 : Int32) : Met l yX13_isDigit (wl yX13_isDigit cX13_isDigit 1 (some .boolean)) ({ frames := 3, cells := 0, slots := 0, locals := 140 }) (mz_p D cy ld ad am Fa Ga Ra Sa [.int p0]) (mz_j D cy ad am Fa Ga Ra Sa (fun r => 0 ≤ r.toInt ∧ r.toInt ≤ 1 ∧ 0 ≤ r.toInt ∧ r.toInt ≤ 1)) 0 0 (mz_W ad am) := by
  refine mz_met (y := yX13_isDigit) (cc := cX13_isDigit) (maxL := 1) (ret := (some .boolean)) (av := [.int p0]) _ (by decide) (Nat.le_of_ble_eq_true rfl) ?_
  intro p e s m args below meth c hx hb hr hml hts htl hown hlocks hK H locs hM hS ls hl
  have hown : s.vm.findClass RX13 = some m.cls := hown
  have hl : lv_has ls 1 [(0, .int p0)] := hl
  have hr_p0 := tk_rng p0
  refine lv_iload_n hx hb dX13_isDigit_0 rfl (lv_at hl 0 rfl) ?_
  refine lv_bipush (v := 48) hx hb dX13_isDigit_1 (by decide) ?_
  refine lv_icmp_lt (tgt := 16) hx hb dX13_isDigit_3 (by decide) (fun c9 => ?_) (fun c9 => ?_)
  · have hc1 : p0.toInt < 48 := (fi_lt rfl (show (48 : Int32).toInt = 48 by decide)).mp c9
    refine lv_iconst (v := 0) hx hb dX13_isDigit_16 (by decide) ?_
    have hk_0 : (0 : Int32).toInt = 0 := by decide
    exact mz_jret (v := 0) hx hb hr rfl hlocks ⟨(by omega), (by omega), (by omega), (by omega)⟩ hM hS dX13_isDigit_17
  · have hc1 : ¬ (p0.toInt < 48) := fun h9 => c9 ((fi_lt rfl (show (48 : Int32).toInt = 48 by decide)).mpr h9)
    refine lv_iload_n hx hb dX13_isDigit_6 rfl (lv_at hl 0 rfl) ?_
    refine lv_bipush (v := 57) hx hb dX13_isDigit_7 (by decide) ?_
    refine lv_icmp_gt (tgt := 16) hx hb dX13_isDigit_9 (by decide) (fun c9 => ?_) (fun c9 => ?_)
    · have hc2 : 57 < p0.toInt := (fi_lt (show (57 : Int32).toInt = 57 by decide) rfl).mp c9
      refine lv_iconst (v := 0) hx hb dX13_isDigit_16 (by decide) ?_
      have hk_0 : (0 : Int32).toInt = 0 := by decide
      exact mz_jret (v := 0) hx hb hr rfl hlocks ⟨(by omega), (by omega), (by omega), (by omega)⟩ hM hS dX13_isDigit_17
    · have hc2 : ¬ (57 < p0.toInt) := fun h9 => c9 ((fi_lt (show (57 : Int32).toInt = 57 by decide) rfl).mpr h9)
      refine lv_iconst (v := 1) hx hb dX13_isDigit_12 (by decide) ?_
      refine lv_goto (tgt := 17) hx hb dX13_isDigit_13 (by decide) ?_
      have hk_1 : (1 : Int32).toInt = 1 := by decide
      exact mz_jret (v := 1) hx hb hr rfl hlocks ⟨(by omega), (by omega), (by omega), (by omega)⟩ hM hS dX13_isDigit_17
theorem dX13_isWord_0 : decode cX13_isWord 0 = .ok (.aload_n 0, 1) := by decide +kernel
theorem dX13_isWord_1 : decode cX13_isWord 1 = .ok (.getfield 256, 3) := by decide +kernel
theorem dX13_isWord_4 : decode cX13_isWord 4 = .ok (.iconst 1, 1) := by decide +kernel
theorem dX13_isWord_5 : decode cX13_isWord 5 = .ok (.if_icmp .ne 16, 3) := by decide +kernel
theorem dX13_isWord_21 : decode cX13_isWord 21 = .ok (.iconst 0, 1) := by decide +kernel
theorem dX13_isWord_22 : decode cX13_isWord 22 = .ok (.ireturn, 1) := by decide +kernel
theorem dX13_isWord_8 : decode cX13_isWord 8 = .ok (.aload_n 0, 1) := by decide +kernel
theorem dX13_isWord_9 : decode cX13_isWord 9 = .ok (.getfield 246, 3) := by decide +kernel
theorem dX13_isWord_12 : decode cX13_isWord 12 = .ok (.lload_n 1, 1) := by decide +kernel
theorem dX13_isWord_13 : decode cX13_isWord 13 = .ok (.lcmp, 1) := by decide +kernel
theorem dX13_isWord_14 : decode cX13_isWord 14 = .ok (.ifCond .ne 7, 3) := by decide +kernel
theorem dX13_isWord_17 : decode cX13_isWord 17 = .ok (.iconst 1, 1) := by decide +kernel
theorem dX13_isWord_18 : decode cX13_isWord 18 = .ok (.goto 4, 3) := by decide +kernel
set_option maxHeartbeats 4000000 in
set_option maxRecDepth 100000 in
theorem k_X13_isWord (l : Launch) (D : va_G) (cy : Nat → ClassId) (ld ad : Nat → Nat) (am : Nat) (hD : mz_D ad am) (Fa : Nat → Int32) (Ga : Nat → Int64) (Ra : Nat → Nat → Int32) (Sa : Nat → Nat → Int64) (p1 : Int64) (hIF : mz_IF true Fa) (hIG : mz_IG Ga) (hIR : mz_IR [] true Ra) : Met l yX13_isWord (wl yX13_isWord cX13_isWord 3 (some .boolean)) ({ frames := 3, cells := 0, slots := 0, locals := 140 }) (mz_p D cy ld ad am Fa Ga Ra Sa [.ref am, .long p1]) (mz_j D cy ad am Fa Ga Ra Sa (fun r => 0 ≤ r.toInt ∧ r.toInt ≤ 1 ∧ 0 ≤ r.toInt ∧ r.toInt ≤ 1)) 0 0 (mz_W ad am) := by
  refine mz_met (y := yX13_isWord) (cc := cX13_isWord) (maxL := 3) (ret := (some .boolean)) (av := [.ref am, .long p1]) _ (by decide) (Nat.le_of_ble_eq_true rfl) ?_
  intro p e s m args below meth c hx hb hr hml hts htl hown hlocks hK H locs hM hS ls hl
  have hown : s.vm.findClass RX13 = some m.cls := hown
  have hl : lv_has ls 3 [(0, .ref am), (1, .long p1)] := hl
  refine lv_aload_n hx hb dX13_isWord_0 rfl (lv_at hl 0 rfl) ?_
  refine mz_getI hx hb htl hown hK hM 16 (Nat.le_of_ble_eq_true rfl) rfl (htl _ mw_688) (fun _ h9 => h9) dX13_isWord_1 (fun v2 hf1 => ?_)
  have hq_v2 := tk_rng v2
  have hr_v2 : 0 ≤ v2.toInt ∧ v2.toInt ≤ 3 := hIF.at hf1
  refine lv_iconst (v := 1) hx hb dX13_isWord_4 (by decide) ?_
  refine lv_icmp_ne (tgt := 21) hx hb dX13_isWord_5 (by decide) (fun c9 => ?_) (fun c9 => ?_)
  · have hc3 : ¬ (v2.toInt = 1) := fun h9 => c9 ((fi_eq rfl (show (1 : Int32).toInt = 1 by decide)).mpr h9)
    refine lv_iconst (v := 0) hx hb dX13_isWord_21 (by decide) ?_
    have hk_0 : (0 : Int32).toInt = 0 := by decide
    exact mz_jret (v := 0) hx hb hr rfl hlocks ⟨(by omega), (by omega), (by omega), (by omega)⟩ hM hS dX13_isWord_22
  · have hc3 : v2.toInt = 1 := (fi_eq rfl (show (1 : Int32).toInt = 1 by decide)).mp c9
    refine lv_aload_n hx hb dX13_isWord_8 rfl (lv_at hl 0 rfl) ?_
    refine mz_getJ hx hb htl hown hK hM 17 (Nat.le_of_ble_eq_true rfl) rfl (htl _ mw_687) (fun _ h9 => h9) dX13_isWord_9 (fun w4 e_w4 => ?_)
    have hr_w4 := tk_rngL w4
    refine lv_lload_n hx hb dX13_isWord_12 rfl (lv_at hl 1 rfl) ?_
    refine W.lcmp hx hb dX13_isWord_13 ?_
    refine lv_if_ne (tgt := 21) hx hb dX13_isWord_14 (by decide) (fun c9 => ?_) (fun c9 => ?_)
    · have hc5 : ¬ (w4.toInt = p1.toInt) := fun h9 => c9 (((lg_cmp_eq _ _).trans (fl_eq rfl rfl)).mpr h9)
      refine lv_iconst (v := 0) hx hb dX13_isWord_21 (by decide) ?_
      have hk_0 : (0 : Int32).toInt = 0 := by decide
      exact mz_jret (v := 0) hx hb hr rfl hlocks ⟨(by omega), (by omega), (by omega), (by omega)⟩ hM hS dX13_isWord_22
    · have hc5 : w4.toInt = p1.toInt := ((lg_cmp_eq _ _).trans (fl_eq rfl rfl)).mp c9
      refine lv_iconst (v := 1) hx hb dX13_isWord_17 (by decide) ?_
      refine lv_goto (tgt := 22) hx hb dX13_isWord_18 (by decide) ?_
      have hk_1 : (1 : Int32).toInt = 1 := by decide
      exact mz_jret (v := 1) hx hb hr rfl hlocks ⟨(by omega), (by omega), (by omega), (by omega)⟩ hM hS dX13_isWord_22
theorem dX13_isSign_0 : decode cX13_isSign 0 = .ok (.aload_n 0, 1) := by decide +kernel
theorem dX13_isSign_1 : decode cX13_isSign 1 = .ok (.getfield 256, 3) := by decide +kernel
theorem dX13_isSign_4 : decode cX13_isSign 4 = .ok (.iconst 3, 1) := by decide +kernel
theorem dX13_isSign_5 : decode cX13_isSign 5 = .ok (.if_icmp .ne 17, 3) := by decide +kernel
theorem dX13_isSign_22 : decode cX13_isSign 22 = .ok (.iconst 0, 1) := by decide +kernel
theorem dX13_isSign_23 : decode cX13_isSign 23 = .ok (.ireturn, 1) := by decide +kernel
theorem dX13_isSign_8 : decode cX13_isSign 8 = .ok (.aload_n 0, 1) := by decide +kernel
theorem dX13_isSign_9 : decode cX13_isSign 9 = .ok (.getfield 246, 3) := by decide +kernel
theorem dX13_isSign_12 : decode cX13_isSign 12 = .ok (.iload_n 1, 1) := by decide +kernel
theorem dX13_isSign_13 : decode cX13_isSign 13 = .ok (.i2l, 1) := by decide +kernel
theorem dX13_isSign_14 : decode cX13_isSign 14 = .ok (.lcmp, 1) := by decide +kernel
theorem dX13_isSign_15 : decode cX13_isSign 15 = .ok (.ifCond .ne 7, 3) := by decide +kernel
theorem dX13_isSign_18 : decode cX13_isSign 18 = .ok (.iconst 1, 1) := by decide +kernel
theorem dX13_isSign_19 : decode cX13_isSign 19 = .ok (.goto 4, 3) := by decide +kernel
set_option maxHeartbeats 4000000 in
set_option maxRecDepth 100000 in
theorem k_X13_isSign (l : Launch) (D : va_G) (cy : Nat → ClassId) (ld ad : Nat → Nat) (am : Nat) (hD : mz_D ad am) (Fa : Nat → Int32) (Ga : Nat → Int64) (Ra : Nat → Nat → Int32) (Sa : Nat → Nat → Int64) (p1 : Int32) (hIF : mz_IF true Fa) (hIG : mz_IG Ga) (hIR : mz_IR [] true Ra) : Met l yX13_isSign (wl yX13_isSign cX13_isSign 2 (some .boolean)) ({ frames := 3, cells := 0, slots := 0, locals := 140 }) (mz_p D cy ld ad am Fa Ga Ra Sa [.ref am, .int p1]) (mz_j D cy ad am Fa Ga Ra Sa (fun r => 0 ≤ r.toInt ∧ r.toInt ≤ 1 ∧ 0 ≤ r.toInt ∧ r.toInt ≤ 1)) 0 0 (mz_W ad am) := by
  refine mz_met (y := yX13_isSign) (cc := cX13_isSign) (maxL := 2) (ret := (some .boolean)) (av := [.ref am, .int p1]) _ (by decide) (Nat.le_of_ble_eq_true rfl) ?_
  intro p e s m args below meth c hx hb hr hml hts htl hown hlocks hK H locs hM hS ls hl
  have hown : s.vm.findClass RX13 = some m.cls := hown
  have hl : lv_has ls 2 [(0, .ref am), (1, .int p1)] := hl
  have hr_p1 := tk_rng p1
  refine lv_aload_n hx hb dX13_isSign_0 rfl (lv_at hl 0 rfl) ?_
  refine mz_getI hx hb htl hown hK hM 16 (Nat.le_of_ble_eq_true rfl) rfl (htl _ mw_688) (fun _ h9 => h9) dX13_isSign_1 (fun v2 hf1 => ?_)
  have hq_v2 := tk_rng v2
  have hr_v2 : 0 ≤ v2.toInt ∧ v2.toInt ≤ 3 := hIF.at hf1
  refine lv_iconst (v := 3) hx hb dX13_isSign_4 (by decide) ?_
  refine lv_icmp_ne (tgt := 22) hx hb dX13_isSign_5 (by decide) (fun c9 => ?_) (fun c9 => ?_)
  · have hc3 : ¬ (v2.toInt = 3) := fun h9 => c9 ((fi_eq rfl (show (3 : Int32).toInt = 3 by decide)).mpr h9)
    refine lv_iconst (v := 0) hx hb dX13_isSign_22 (by decide) ?_
    have hk_0 : (0 : Int32).toInt = 0 := by decide
    exact mz_jret (v := 0) hx hb hr rfl hlocks ⟨(by omega), (by omega), (by omega), (by omega)⟩ hM hS dX13_isSign_23
  · have hc3 : v2.toInt = 3 := (fi_eq rfl (show (3 : Int32).toInt = 3 by decide)).mp c9
    refine lv_aload_n hx hb dX13_isSign_8 rfl (lv_at hl 0 rfl) ?_
    refine mz_getJ hx hb htl hown hK hM 17 (Nat.le_of_ble_eq_true rfl) rfl (htl _ mw_687) (fun _ h9 => h9) dX13_isSign_9 (fun w4 e_w4 => ?_)
    have hr_w4 := tk_rngL w4
    refine lv_iload_n hx hb dX13_isSign_12 rfl (lv_at hl 1 rfl) ?_
    obtain ⟨w5, e_w5, h_w5⟩ : ∃ z : Int64, p1.toInt64 = z ∧ z.toInt = p1.toInt := ⟨_, rfl, fl_w _⟩
    refine lv_i2l (v := w5) hx hb dX13_isSign_13 e_w5 ?_
    refine W.lcmp hx hb dX13_isSign_14 ?_
    refine lv_if_ne (tgt := 22) hx hb dX13_isSign_15 (by decide) (fun c9 => ?_) (fun c9 => ?_)
    · have hc6 : ¬ (w4.toInt = w5.toInt) := fun h9 => c9 (((lg_cmp_eq _ _).trans (fl_eq rfl rfl)).mpr h9)
      refine lv_iconst (v := 0) hx hb dX13_isSign_22 (by decide) ?_
      have hk_0 : (0 : Int32).toInt = 0 := by decide
      exact mz_jret (v := 0) hx hb hr rfl hlocks ⟨(by omega), (by omega), (by omega), (by omega)⟩ hM hS dX13_isSign_23
    · have hc6 : w4.toInt = w5.toInt := ((lg_cmp_eq _ _).trans (fl_eq rfl rfl)).mp c9
      refine lv_iconst (v := 1) hx hb dX13_isSign_18 (by decide) ?_
      refine lv_goto (tgt := 23) hx hb dX13_isSign_19 (by decide) ?_
      have hk_1 : (1 : Int32).toInt = 1 := by decide
      exact mz_jret (v := 1) hx hb hr rfl hlocks ⟨(by omega), (by omega), (by omega), (by omega)⟩ hM hS dX13_isSign_23
theorem dX13_fault_0 : decode cX13_fault 0 = .ok (.aload_n 0, 1) := by decide +kernel
theorem dX13_fault_1 : decode cX13_fault 1 = .ok (.iconst 0, 1) := by decide +kernel
theorem dX13_fault_2 : decode cX13_fault 2 = .ok (.putfield 170, 3) := by decide +kernel
theorem dX13_fault_5 : decode cX13_fault 5 = .ok (.aload_n 0, 1) := by decide +kernel
theorem dX13_fault_6 : decode cX13_fault 6 = .ok (.getfield 38, 3) := by decide +kernel
theorem dX13_fault_9 : decode cX13_fault 9 = .ok (.ireturn, 1) := by decide +kernel
set_option maxHeartbeats 4000000 in
set_option maxRecDepth 100000 in
theorem k_X13_fault (l : Launch) (D : va_G) (cy : Nat → ClassId) (ld ad : Nat → Nat) (am : Nat) (hD : mz_D ad am) (Fa : Nat → Int32) (Ga : Nat → Int64) (Ra : Nat → Nat → Int32) (Sa : Nat → Nat → Int64) (hIF : mz_IF true Fa) (hIG : mz_IG Ga) (hIR : mz_IR [] true Ra) : Met l yX13_fault (wl yX13_fault cX13_fault 1 (some .int)) ({ frames := 3, cells := 0, slots := 0, locals := 140 }) (mz_p D cy ld ad am Fa Ga Ra Sa [.ref am]) (mz_i D cy ad am (fun r F G R S => mz_IF true F ∧ mz_IG G ∧ mz_IR [] true R ∧ (∀ k : Nat, k ∉ ([0] : List Nat) → F k = Fa k) ∧ (∀ k : Nat, k ∉ ([] : List Nat) → R k = Ra k) ∧ (∀ k : Nat, k ∉ ([] : List Nat) → G k = Ga k))) 0 0 (mz_W ad am) := by
  refine mz_met (y := yX13_fault) (cc := cX13_fault) (maxL := 1) (ret := (some .int)) (av := [.ref am]) _ (by decide) (Nat.le_of_ble_eq_true rfl) ?_
  intro p e s m args below meth c hx hb hr hml hts htl hown hlocks hK H locs hM hS ls hl
  have hown : s.vm.findClass RX13 = some m.cls := hown
  have hl : lv_has ls 1 [(0, .ref am)] := hl
  refine lv_aload_n hx hb dX13_fault_0 rfl (lv_at hl 0 rfl) ?_
  refine lv_iconst (v := 0) hx hb dX13_fault_1 (by decide) ?_
  have hk_0 : (0 : Int32).toInt = 0 := by decide
  refine mz_putI (ty := .int) (x := 0) hx hb htl hown hK hD hM hS 0 (Nat.le_of_ble_eq_true rfl) rfl (htl _ mw_286) (fun _ h9 => h9) rfl (tyX13_ok 0 (by decide)) rfl rfl dX13_fault_2 (fun H locs F hM hS hf9 hj9 => ?_)
  have hIF := hIF.put hf9 hj9 (tk_rng _).1 (tk_rng _).2 (by decide)
  have hFF := mz_frp (K := [0]) (Fa := Fa) hj9 (fun _ _ => rfl) (by decide)
  have hf2 := hf9
  refine lv_aload_n hx hb dX13_fault_5 rfl (lv_at hl 0 rfl) ?_
  refine mz_getI hx hb htl hown hK hM 18 (Nat.le_of_ble_eq_true rfl) rfl (htl _ mw_196) (fun _ h9 => h9) dX13_fault_6 (fun v4 hf3 => ?_)
  have hq_v4 := tk_rng v4
  exact mz_iret (v := v4) hx hb hr rfl hlocks ⟨hIF, hIG, hIR, hFF, (fun _ _ => rfl), (fun _ _ => rfl)⟩ hM hS dX13_fault_9
theorem dX13_binds_0 : decode cX13_binds 0 = .ok (.iload_n 0, 1) := by decide +kernel
theorem dX13_binds_1 : decode cX13_binds 1 = .ok (.bipush 31, 2) := by decide +kernel
theorem dX13_binds_3 : decode cX13_binds 3 = .ok (.if_icmp .lt 7, 3) := by decide +kernel
theorem dX13_binds_10 : decode cX13_binds 10 = .ok (.iload_n 0, 1) := by decide +kernel
theorem dX13_binds_11 : decode cX13_binds 11 = .ok (.bipush 30, 2) := by decide +kernel
theorem dX13_binds_13 : decode cX13_binds 13 = .ok (.if_icmp .ne 7, 3) := by decide +kernel
theorem dX13_binds_20 : decode cX13_binds 20 = .ok (.iload_n 0, 1) := by decide +kernel
theorem dX13_binds_21 : decode cX13_binds 21 = .ok (.bipush 29, 2) := by decide +kernel
theorem dX13_binds_23 : decode cX13_binds 23 = .ok (.if_icmp .ne 7, 3) := by decide +kernel
theorem dX13_binds_30 : decode cX13_binds 30 = .ok (.iload_n 0, 1) := by decide +kernel
theorem dX13_binds_31 : decode cX13_binds 31 = .ok (.bipush 28, 2) := by decide +kernel
theorem dX13_binds_33 : decode cX13_binds 33 = .ok (.if_icmp .ne 7, 3) := by decide +kernel
theorem dX13_binds_40 : decode cX13_binds 40 = .ok (.iload_n 0, 1) := by decide +kernel
theorem dX13_binds_41 : decode cX13_binds 41 = .ok (.bipush 25, 2) := by decide +kernel
theorem dX13_binds_43 : decode cX13_binds 43 = .ok (.if_icmp .lt 7, 3) := by decide +kernel
theorem dX13_binds_50 : decode cX13_binds 50 = .ok (.iload_n 0, 1) := by decide +kernel
theorem dX13_binds_51 : decode cX13_binds 51 = .ok (.bipush 22, 2) := by decide +kernel
theorem dX13_binds_53 : decode cX13_binds 53 = .ok (.if_icmp .lt 8, 3) := by decide +kernel
theorem dX13_binds_61 : decode cX13_binds 61 = .ok (.iconst 5, 1) := by decide +kernel
theorem dX13_binds_62 : decode cX13_binds 62 = .ok (.ireturn, 1) := by decide +kernel
theorem dX13_binds_56 : decode cX13_binds 56 = .ok (.bipush 6, 2) := by decide +kernel
theorem dX13_binds_58 : decode cX13_binds 58 = .ok (.goto 4, 3) := by decide +kernel
theorem dX13_binds_46 : decode cX13_binds 46 = .ok (.iconst 4, 1) := by decide +kernel
theorem dX13_binds_47 : decode cX13_binds 47 = .ok (.goto 15, 3) := by decide +kernel
theorem dX13_binds_36 : decode cX13_binds 36 = .ok (.iconst 3, 1) := by decide +kernel
theorem dX13_binds_37 : decode cX13_binds 37 = .ok (.goto 25, 3) := by decide +kernel
theorem dX13_binds_26 : decode cX13_binds 26 = .ok (.iconst 2, 1) := by decide +kernel
theorem dX13_binds_27 : decode cX13_binds 27 = .ok (.goto 35, 3) := by decide +kernel
theorem dX13_binds_16 : decode cX13_binds 16 = .ok (.iconst 1, 1) := by decide +kernel
theorem dX13_binds_17 : decode cX13_binds 17 = .ok (.goto 45, 3) := by decide +kernel
theorem dX13_binds_6 : decode cX13_binds 6 = .ok (.iconst 0, 1) := by decide +kernel
theorem dX13_binds_7 : decode cX13_binds 7 = .ok (.goto 55, 3) := by decide +kernel
set_option maxHeartbeats 4000000 in
set_option maxRecDepth 100000 in
theorem k_X13_binds (l : Launch) (D : va_G) (cy : Nat → ClassId) (ld ad : Nat → Nat) (am : Nat) (hD : mz_D ad am) (Fa : Nat → Int32) (Ga : Nat → Int64) (Ra : Nat → Nat → Int32) (Sa : Nat → Nat → Int64) (p0 : Int32) : Met l yX13_binds (wl yX13_binds cX13_binds 1 (some .int)) ({ frames := 3, cells := 0, slots := 0, locals := 140 }) (mz_p D cy ld ad am Fa Ga Ra Sa [.int p0]) (mz_j D cy ad am Fa Ga Ra Sa (fun r => 0 ≤ r.toInt ∧ r.toInt ≤ 6)) 0 0 (mz_W ad am) := by
  refine mz_met (y := yX13_binds) (cc := cX13_binds) (maxL := 1) (ret := (some .int)) (av := [.int p0]) _ (by decide) (Nat.le_of_ble_eq_true rfl) ?_
  intro p e s m args below meth c hx hb hr hml hts htl hown hlocks hK H locs hM hS ls hl
  have hown : s.vm.findClass RX13 = some m.cls := hown
  have hl : lv_has ls 1 [(0, .int p0)] := hl
  have hr_p0 := tk_rng p0
  refine lv_iload_n hx hb dX13_binds_0 rfl (lv_at hl 0 rfl) ?_
  refine lv_bipush (v := 31) hx hb dX13_binds_1 (by decide) ?_
  refine lv_icmp_lt (tgt := 10) hx hb dX13_binds_3 (by decide) (fun c9 => ?_) (fun c9 => ?_)
  · have hc1 : p0.toInt < 31 := (fi_lt rfl (show (31 : Int32).toInt = 31 by decide)).mp c9
    refine lv_iload_n hx hb dX13_binds_10 rfl (lv_at hl 0 rfl) ?_
    refine lv_bipush (v := 30) hx hb dX13_binds_11 (by decide) ?_
    refine lv_icmp_ne (tgt := 20) hx hb dX13_binds_13 (by decide) (fun c9 => ?_) (fun c9 => ?_)
    · have hc2 : ¬ (p0.toInt = 30) := fun h9 => c9 ((fi_eq rfl (show (30 : Int32).toInt = 30 by decide)).mpr h9)
      refine lv_iload_n hx hb dX13_binds_20 rfl (lv_at hl 0 rfl) ?_
      refine lv_bipush (v := 29) hx hb dX13_binds_21 (by decide) ?_
      refine lv_icmp_ne (tgt := 30) hx hb dX13_binds_23 (by decide) (fun c9 => ?_) (fun c9 => ?_)
      · have hc3 : ¬ (p0.toInt = 29) := fun h9 => c9 ((fi_eq rfl (show (29 : Int32).toInt = 29 by decide)).mpr h9)
        refine lv_iload_n hx hb dX13_binds_30 rfl (lv_at hl 0 rfl) ?_
        refine lv_bipush (v := 28) hx hb dX13_binds_31 (by decide) ?_
        refine lv_icmp_ne (tgt := 40) hx hb dX13_binds_33 (by decide) (fun c9 => ?_) (fun c9 => ?_)
        · have hc4 : ¬ (p0.toInt = 28) := fun h9 => c9 ((fi_eq rfl (show (28 : Int32).toInt = 28 by decide)).mpr h9)
          refine lv_iload_n hx hb dX13_binds_40 rfl (lv_at hl 0 rfl) ?_
          refine lv_bipush (v := 25) hx hb dX13_binds_41 (by decide) ?_
          refine lv_icmp_lt (tgt := 50) hx hb dX13_binds_43 (by decide) (fun c9 => ?_) (fun c9 => ?_)
          · have hc5 : p0.toInt < 25 := (fi_lt rfl (show (25 : Int32).toInt = 25 by decide)).mp c9
            refine lv_iload_n hx hb dX13_binds_50 rfl (lv_at hl 0 rfl) ?_
            refine lv_bipush (v := 22) hx hb dX13_binds_51 (by decide) ?_
            refine lv_icmp_lt (tgt := 61) hx hb dX13_binds_53 (by decide) (fun c9 => ?_) (fun c9 => ?_)
            · have hc6 : p0.toInt < 22 := (fi_lt rfl (show (22 : Int32).toInt = 22 by decide)).mp c9
              refine lv_iconst (v := 5) hx hb dX13_binds_61 (by decide) ?_
              have hk_5 : (5 : Int32).toInt = 5 := by decide
              exact mz_jret (v := 5) hx hb hr rfl hlocks ⟨(by omega), (by omega)⟩ hM hS dX13_binds_62
            · have hc6 : ¬ (p0.toInt < 22) := fun h9 => c9 ((fi_lt rfl (show (22 : Int32).toInt = 22 by decide)).mpr h9)
              refine lv_bipush (v := 6) hx hb dX13_binds_56 (by decide) ?_
              refine lv_goto (tgt := 62) hx hb dX13_binds_58 (by decide) ?_
              have hk_6 : (6 : Int32).toInt = 6 := by decide
              exact mz_jret (v := 6) hx hb hr rfl hlocks ⟨(by omega), (by omega)⟩ hM hS dX13_binds_62
          · have hc5 : ¬ (p0.toInt < 25) := fun h9 => c9 ((fi_lt rfl (show (25 : Int32).toInt = 25 by decide)).mpr h9)
            refine lv_iconst (v := 4) hx hb dX13_binds_46 (by decide) ?_
            refine lv_goto (tgt := 62) hx hb dX13_binds_47 (by decide) ?_
            have hk_4 : (4 : Int32).toInt = 4 := by decide
            exact mz_jret (v := 4) hx hb hr rfl hlocks ⟨(by omega), (by omega)⟩ hM hS dX13_binds_62
        · have hc4 : p0.toInt = 28 := (fi_eq rfl (show (28 : Int32).toInt = 28 by decide)).mp c9
          refine lv_iconst (v := 3) hx hb dX13_binds_36 (by decide) ?_
          refine lv_goto (tgt := 62) hx hb dX13_binds_37 (by decide) ?_
          have hk_3 : (3 : Int32).toInt = 3 := by decide
          exact mz_jret (v := 3) hx hb hr rfl hlocks ⟨(by omega), (by omega)⟩ hM hS dX13_binds_62
      · have hc3 : p0.toInt = 29 := (fi_eq rfl (show (29 : Int32).toInt = 29 by decide)).mp c9
        refine lv_iconst (v := 2) hx hb dX13_binds_26 (by decide) ?_
        refine lv_goto (tgt := 62) hx hb dX13_binds_27 (by decide) ?_
        have hk_2 : (2 : Int32).toInt = 2 := by decide
        exact mz_jret (v := 2) hx hb hr rfl hlocks ⟨(by omega), (by omega)⟩ hM hS dX13_binds_62
    · have hc2 : p0.toInt = 30 := (fi_eq rfl (show (30 : Int32).toInt = 30 by decide)).mp c9
      refine lv_iconst (v := 1) hx hb dX13_binds_16 (by decide) ?_
      refine lv_goto (tgt := 62) hx hb dX13_binds_17 (by decide) ?_
      have hk_1 : (1 : Int32).toInt = 1 := by decide
      exact mz_jret (v := 1) hx hb hr rfl hlocks ⟨(by omega), (by omega)⟩ hM hS dX13_binds_62
  · have hc1 : ¬ (p0.toInt < 31) := fun h9 => c9 ((fi_lt rfl (show (31 : Int32).toInt = 31 by decide)).mpr h9)
    refine lv_iconst (v := 0) hx hb dX13_binds_6 (by decide) ?_
    refine lv_goto (tgt := 62) hx hb dX13_binds_7 (by decide) ?_
    have hk_0 : (0 : Int32).toInt = 0 := by decide
    exact mz_jret (v := 0) hx hb hr rfl hlocks ⟨(by omega), (by omega)⟩ hM hS dX13_binds_62
theorem dX13_inner_0 : decode cX13_inner 0 = .ok (.iconst (-1), 1) := by decide +kernel
theorem dX13_inner_1 : decode cX13_inner 1 = .ok (.istore_n 1, 1) := by decide +kernel
theorem dX13_inner_2 : decode cX13_inner 2 = .ok (.iconst 0, 1) := by decide +kernel
theorem dX13_inner_3 : decode cX13_inner 3 = .ok (.istore_n 2, 1) := by decide +kernel
theorem dX13_inner_4 : decode cX13_inner 4 = .ok (.iload_n 2, 1) := by decide +kernel
theorem dX13_inner_5 : decode cX13_inner 5 = .ok (.aload_n 0, 1) := by decide +kernel
theorem dX13_inner_6 : decode cX13_inner 6 = .ok (.getfield 278, 3) := by decide +kernel
theorem dX13_inner_9 : decode cX13_inner 9 = .ok (.if_icmp .ge 31, 3) := by decide +kernel
theorem dX13_inner_40 : decode cX13_inner 40 = .ok (.iload_n 1, 1) := by decide +kernel
theorem dX13_inner_41 : decode cX13_inner 41 = .ok (.ireturn, 1) := by decide +kernel
theorem dX13_inner_12 : decode cX13_inner 12 = .ok (.aload_n 0, 1) := by decide +kernel
theorem dX13_inner_13 : decode cX13_inner 13 = .ok (.getfield 51, 3) := by decide +kernel
theorem dX13_inner_16 : decode cX13_inner 16 = .ok (.iload_n 2, 1) := by decide +kernel
theorem dX13_inner_17 : decode cX13_inner 17 = .ok (.iaload, 1) := by decide +kernel
theorem dX13_inner_18 : decode cX13_inner 18 = .ok (.bipush 31, 2) := by decide +kernel
theorem dX13_inner_33 : decode cX13_inner 33 = .ok (.istore_n 1, 1) := by decide +kernel
theorem dX13_inner_34 : decode cX13_inner 34 = .ok (.iinc 2 1, 3) := by decide +kernel
theorem dX13_inner_37 : decode cX13_inner 37 = .ok (.goto (-33), 3) := by decide +kernel
theorem dX13_inner_20 : decode cX13_inner 20 = .ok (.if_icmp .lt 12, 3) := by decide +kernel
theorem dX13_inner_32 : decode cX13_inner 32 = .ok (.iload_n 1, 1) := by decide +kernel
theorem dX13_inner_23 : decode cX13_inner 23 = .ok (.aload_n 0, 1) := by decide +kernel
theorem dX13_inner_24 : decode cX13_inner 24 = .ok (.getfield 51, 3) := by decide +kernel
theorem dX13_inner_27 : decode cX13_inner 27 = .ok (.iload_n 2, 1) := by decide +kernel
theorem dX13_inner_28 : decode cX13_inner 28 = .ok (.iaload, 1) := by decide +kernel
theorem dX13_inner_29 : decode cX13_inner 29 = .ok (.goto 4, 3) := by decide +kernel
set_option maxHeartbeats 4000000 in
set_option maxRecDepth 100000 in
theorem k_X13_inner (l : Launch) (D : va_G) (cy : Nat → ClassId) (ld ad : Nat → Nat) (am : Nat) (hD : mz_D ad am) (Fa : Nat → Int32) (Ga : Nat → Int64) (Ra : Nat → Nat → Int32) (Sa : Nat → Nat → Int64) (hIF : mz_IF true Fa) (hIG : mz_IG Ga) (hIR : mz_IR [] true Ra) : Met l yX13_inner (wl yX13_inner cX13_inner 3 (some .int)) ({ frames := 3, cells := 0, slots := 0, locals := 140 }) (mz_p D cy ld ad am Fa Ga Ra Sa [.ref am]) (mz_j D cy ad am Fa Ga Ra Sa (fun r => (-1) ≤ r.toInt)) 0 0 (mz_W ad am) := by
  refine mz_met (y := yX13_inner) (cc := cX13_inner) (maxL := 3) (ret := (some .int)) (av := [.ref am]) _ (by decide) (Nat.le_of_ble_eq_true rfl) ?_
  intro p e s m args below meth c hx hb hr hml hts htl hown hlocks hK H locs hM hS ls hl
  have hown : s.vm.findClass RX13 = some m.cls := hown
  have hl : lv_has ls 3 [(0, .ref am)] := hl
  refine lv_iconst (v := (-1)) hx hb dX13_inner_0 (by decide) ?_
  refine lv_istore_n (lv' := [(1, .int (-1)), (0, .ref am)]) hx hb dX13_inner_1 rfl hl (by decide) rfl (fun ls hl => ?_)
  refine lv_iconst (v := 0) hx hb dX13_inner_2 (by decide) ?_
  refine lv_istore_n (lv' := [(2, .int 0), (1, .int (-1)), (0, .ref am)]) hx hb dX13_inner_3 rfl hl (by decide) rfl (fun ls hl => ?_)
  have hl159 : ∀ (N_l159 : Nat) (v37 : Int32) (v38 : Int32), (0 ≤ v37.toInt) → ((-1) ≤ v38.toInt) → (v37.toInt ≤ 400) → ((-1) * v37.toInt + 400 < (N_l159 : Int)) → ∀ ls : Array Slot, lv_has ls 3 [(2, .int v37), (1, .int v38), (0, .ref am)] → W p l e ({ frames := 3, cells := 0, slots := 0, locals := 140 }) s m args below meth c H locs 0 0 (MQ below (mz_j D cy ad am Fa Ga Ra Sa (fun r => (-1) ≤ r.toInt)) args s 0 0 (mz_W ad am)) (F0 m 4 ls []) := by
    intro N_l159
    induction N_l159 with
    | zero => intro v37 v38 hq0_l159 hq1_l159 hq2_l159 hm_l159 ls hl; exfalso; omega
    | succ N_l159 ih_l159 =>
      intro v37 v38 hq0_l159 hq1_l159 hq2_l159 hm_l159 ls hl
      refine lv_iload_n hx hb dX13_inner_4 rfl (lv_at hl 0 rfl) ?_
      refine lv_aload_n hx hb dX13_inner_5 rfl (lv_at hl 2 rfl) ?_
      refine mz_getI hx hb htl hown hK hM 29 (Nat.le_of_ble_eq_true rfl) rfl (htl _ mw_718) (fun _ h9 => h9) dX13_inner_6 (fun v161 hf160 => ?_)
      have hq_v161 := tk_rng v161
      have hr_v161 : 0 ≤ v161.toInt ∧ v161.toInt ≤ 400 := hIF.at hf160
      refine lv_icmp_ge (tgt := 40) hx hb dX13_inner_9 (by decide) (fun c9 => ?_) (fun c9 => ?_)
      · have hc162 : v161.toInt ≤ v37.toInt := (fi_le rfl rfl).mp c9
        refine lv_iload_n hx hb dX13_inner_40 rfl (lv_at hl 1 rfl) ?_
        exact mz_jret (v := v38) hx hb hr rfl hlocks (by omega) hM hS dX13_inner_41
      · have hc162 : ¬ (v161.toInt ≤ v37.toInt) := fun h9 => c9 ((fi_le rfl rfl).mpr h9)
        refine lv_aload_n hx hb dX13_inner_12 rfl (lv_at hl 2 rfl) ?_
        refine mz_getR hx hb htl hown hK hM 27 (Nat.le_of_ble_eq_true rfl) (Nat.le_of_ble_eq_true rfl) (htl _ mw_200) (fun _ h9 => h9) dX13_inner_13 ?_
        refine lv_iload_n hx hb dX13_inner_16 rfl (lv_at hl 0 rfl) ?_
        refine mz_iald hx hb hK hM 27 (Nat.le_of_ble_eq_true rfl) rfl (nn := 400) rfl rfl (by omega) (by omega) dX13_inner_17 (fun v169 e_v169 => ?_)
        have hq_v169 := tk_rng v169
        refine lv_bipush (v := 31) hx hb dX13_inner_18 (by decide) ?_
        have hj173 : ∀ (v172 : Int32), ((-1) ≤ v172.toInt) → ∀ ls : Array Slot, lv_has ls 3 [(2, .int v37), (0, .ref am)] → W p l e ({ frames := 3, cells := 0, slots := 0, locals := 140 }) s m args below meth c H locs 0 0 (MQ below (mz_j D cy ad am Fa Ga Ra Sa (fun r => (-1) ≤ r.toInt)) args s 0 0 (mz_W ad am)) (F0 m 33 ls [.int v172]) := by
          intro v172 hq0_j173 ls hl
          refine lv_istore_n (lv' := [(1, .int v172), (2, .int v37), (0, .ref am)]) hx hb dX13_inner_33 rfl hl (by decide) rfl (fun ls hl => ?_)
          obtain ⟨v174, h_v174, e_v174⟩ := tk_inc v37 1 (by decide) (by omega) (by omega)
          refine lv_iinc (v := v174) (lv' := [(2, .int v174), (1, .int v172), (0, .ref am)]) hx hb dX13_inner_34 hl (k := 1) rfl e_v174 (by decide) rfl (fun ls hl => ?_)
          refine lv_goto (tgt := 4) hx hb dX13_inner_37 (by decide) ?_
          exact ih_l159 v174 v172 (by omega) (by omega) (by omega) (by omega) _ (lv_sub hl [0, 1, 2] rfl)
        refine lv_icmp_lt (tgt := 32) hx hb dX13_inner_20 (by decide) (fun c9 => ?_) (fun c9 => ?_)
        · have hc170 : v169.toInt < 31 := (fi_lt rfl (show (31 : Int32).toInt = 31 by decide)).mp c9
          refine lv_iload_n hx hb dX13_inner_32 rfl (lv_at hl 1 rfl) ?_
          exact hj173 v38 (by omega) _ (lv_sub hl [0, 2] rfl)
        · have hc170 : ¬ (v169.toInt < 31) := fun h9 => c9 ((fi_lt rfl (show (31 : Int32).toInt = 31 by decide)).mpr h9)
          refine lv_aload_n hx hb dX13_inner_23 rfl (lv_at hl 2 rfl) ?_
          refine mz_getR hx hb htl hown hK hM 27 (Nat.le_of_ble_eq_true rfl) (Nat.le_of_ble_eq_true rfl) (htl _ mw_200) (fun _ h9 => h9) dX13_inner_24 ?_
          refine lv_iload_n hx hb dX13_inner_27 rfl (lv_at hl 0 rfl) ?_
          refine mz_iald hx hb hK hM 27 (Nat.le_of_ble_eq_true rfl) rfl (nn := 400) rfl rfl (by omega) (by omega) dX13_inner_28 (fun v9 e9 => ?_)
          refine fx_ti (v := v169) (e9.symm.trans e_v169) ?_
          refine lv_goto (tgt := 33) hx hb dX13_inner_29 (by decide) ?_
          exact hj173 v169 (by omega) _ (lv_sub hl [0, 2] rfl)
  have hk_0 : (0 : Int32).toInt = 0 := by decide
  have hk_m1 : ((-1) : Int32).toInt = (-1) := by decide
  exact hl159 401 0 (-1) (by omega) (by omega) (by omega) (by omega) _ (lv_sub hl [0, 1, 2] rfl)
theorem dX13_isCompared_0 : decode cX13_isCompared 0 = .ok (.aload_n 0, 1) := by decide +kernel
theorem dX13_isCompared_1 : decode cX13_isCompared 1 = .ok (.getfield 278, 3) := by decide +kernel
theorem dX13_isCompared_4 : decode cX13_isCompared 4 = .ok (.iconst 1, 1) := by decide +kernel
theorem dX13_isCompared_5 : decode cX13_isCompared 5 = .ok (.isub, 1) := by decide +kernel
theorem dX13_isCompared_6 : decode cX13_isCompared 6 = .ok (.istore_n 1, 1) := by decide +kernel
theorem dX13_isCompared_7 : decode cX13_isCompared 7 = .ok (.iload_n 1, 1) := by decide +kernel
theorem dX13_isCompared_36 : decode cX13_isCompared 36 = .ok (.iload_n 1, 1) := by decide +kernel
theorem dX13_isCompared_37 : decode cX13_isCompared 37 = .ok (.ifCond .lt 26, 3) := by decide +kernel
theorem dX13_isCompared_63 : decode cX13_isCompared 63 = .ok (.iconst 0, 1) := by decide +kernel
theorem dX13_isCompared_64 : decode cX13_isCompared 64 = .ok (.ireturn, 1) := by decide +kernel
theorem dX13_isCompared_40 : decode cX13_isCompared 40 = .ok (.aload_n 0, 1) := by decide +kernel
theorem dX13_isCompared_41 : decode cX13_isCompared 41 = .ok (.getfield 51, 3) := by decide +kernel
theorem dX13_isCompared_44 : decode cX13_isCompared 44 = .ok (.iload_n 1, 1) := by decide +kernel
theorem dX13_isCompared_45 : decode cX13_isCompared 45 = .ok (.iaload, 1) := by decide +kernel
theorem dX13_isCompared_46 : decode cX13_isCompared 46 = .ok (.i2l, 1) := by decide +kernel
theorem dX13_isCompared_47 : decode cX13_isCompared 47 = .ok (.ldc2_w 292, 3) := by decide +kernel
theorem dX13_isCompared_50 : decode cX13_isCompared 50 = .ok (.ldc2_w 294, 3) := by decide +kernel
theorem dX13_isCompared_53 : decode cX13_isCompared 53 = .ok (.invokestatic 190, 3) := by decide +kernel
theorem dX13_isCompared_56 : decode cX13_isCompared 56 = .ok (.ifCond .eq 7, 3) := by decide +kernel
theorem dX13_isCompared_59 : decode cX13_isCompared 59 = .ok (.iconst 1, 1) := by decide +kernel
theorem dX13_isCompared_60 : decode cX13_isCompared 60 = .ok (.goto 4, 3) := by decide +kernel
theorem dX13_isCompared_8 : decode cX13_isCompared 8 = .ok (.ifCond .lt 28, 3) := by decide +kernel
theorem dX13_isCompared_11 : decode cX13_isCompared 11 = .ok (.aload_n 0, 1) := by decide +kernel
theorem dX13_isCompared_12 : decode cX13_isCompared 12 = .ok (.getfield 51, 3) := by decide +kernel
theorem dX13_isCompared_15 : decode cX13_isCompared 15 = .ok (.iload_n 1, 1) := by decide +kernel
theorem dX13_isCompared_16 : decode cX13_isCompared 16 = .ok (.iaload, 1) := by decide +kernel
theorem dX13_isCompared_17 : decode cX13_isCompared 17 = .ok (.i2l, 1) := by decide +kernel
theorem dX13_isCompared_18 : decode cX13_isCompared 18 = .ok (.ldc2_w 288, 3) := by decide +kernel
theorem dX13_isCompared_21 : decode cX13_isCompared 21 = .ok (.ldc2_w 290, 3) := by decide +kernel
theorem dX13_isCompared_24 : decode cX13_isCompared 24 = .ok (.invokestatic 190, 3) := by decide +kernel
theorem dX13_isCompared_27 : decode cX13_isCompared 27 = .ok (.ifCond .eq 9, 3) := by decide +kernel
theorem dX13_isCompared_30 : decode cX13_isCompared 30 = .ok (.iinc 1 (-1), 3) := by decide +kernel
theorem dX13_isCompared_33 : decode cX13_isCompared 33 = .ok (.goto (-26), 3) := by decide +kernel
set_option maxHeartbeats 4000000 in
set_option maxRecDepth 100000 in
theorem k_X13_isCompared (l : Launch) (D : va_G) (cy : Nat → ClassId) (ld ad : Nat → Nat) (am : Nat) (hD : mz_D ad am) (Fa : Nat → Int32) (Ga : Nat → Int64) (Ra : Nat → Nat → Int32) (Sa : Nat → Nat → Int64) (hIF : mz_IF true Fa) (hIG : mz_IG Ga) (hIR : mz_IR [] true Ra) : Met l yX13_isCompared (wl yX13_isCompared cX13_isCompared 2 (some .boolean)) ({ frames := 4, cells := 0, slots := 0, locals := 210 }) (mz_p D cy ld ad am Fa Ga Ra Sa [.ref am]) (mz_j D cy ad am Fa Ga Ra Sa (fun r => 0 ≤ r.toInt ∧ r.toInt ≤ 1 ∧ 0 ≤ r.toInt ∧ r.toInt ≤ 1)) 0 0 (mz_W ad am) := by
  refine mz_met (y := yX13_isCompared) (cc := cX13_isCompared) (maxL := 2) (ret := (some .boolean)) (av := [.ref am]) _ (by decide) (Nat.le_of_ble_eq_true rfl) ?_
  intro p e s m args below meth c hx hb hr hml hts htl hown hlocks hK H locs hM hS ls hl
  have hown : s.vm.findClass RX13 = some m.cls := hown
  have hl : lv_has ls 2 [(0, .ref am)] := hl
  refine lv_aload_n hx hb dX13_isCompared_0 rfl (lv_at hl 0 rfl) ?_
  refine mz_getI hx hb htl hown hK hM 29 (Nat.le_of_ble_eq_true rfl) rfl (htl _ mw_718) (fun _ h9 => h9) dX13_isCompared_1 (fun v2 hf1 => ?_)
  have hq_v2 := tk_rng v2
  have hr_v2 : 0 ≤ v2.toInt ∧ v2.toInt ≤ 400 := hIF.at hf1
  refine lv_iconst (v := 1) hx hb dX13_isCompared_4 (by decide) ?_
  refine lv_isub hx hb dX13_isCompared_5 ?_
  refine tk_sub rfl (show (1 : Int32).toInt = 1 by decide) (by omega) (by omega) (fun v3 h_v3 => ?_)
  refine lv_istore_n (lv' := [(1, .int v3), (0, .ref am)]) hx hb dX13_isCompared_6 rfl hl (by decide) rfl (fun ls hl => ?_)
  have hl288 : ∀ (N_l288 : Nat) (v46 : Int32) (H : Heap) (locs : List Loc), ((-1) ≤ v46.toInt) → (0 ≤ v3.toInt + (-1) * v46.toInt) → (mz_S D cy ad am Fa Ga Ra Sa H) → (va_S (mz_W ad am) s.heap H locs) → (v46.toInt + 1 < (N_l288 : Int)) → ∀ ls : Array Slot, lv_has ls 2 [(1, .int v46), (0, .ref am)] → W p l e ({ frames := 4, cells := 0, slots := 0, locals := 210 }) s m args below meth c H locs 0 0 (MQ below (mz_j D cy ad am Fa Ga Ra Sa (fun r => 0 ≤ r.toInt ∧ r.toInt ≤ 1 ∧ 0 ≤ r.toInt ∧ r.toInt ≤ 1)) args s 0 0 (mz_W ad am)) (F0 m 7 ls []) := by
    intro N_l288
    induction N_l288 with
    | zero => intro v46 H locs hq0_l288 hq1_l288 hM hS hm_l288 ls hl; exfalso; omega
    | succ N_l288 ih_l288 =>
      intro v46 H locs hq0_l288 hq1_l288 hM hS hm_l288 ls hl
      refine lv_iload_n hx hb dX13_isCompared_7 rfl (lv_at hl 0 rfl) ?_
      have hj304 : ∀ (H : Heap) (locs : List Loc), (mz_S D cy ad am Fa Ga Ra Sa H) → (va_S (mz_W ad am) s.heap H locs) → ∀ ls : Array Slot, lv_has ls 2 [(1, .int v46), (0, .ref am)] → W p l e ({ frames := 4, cells := 0, slots := 0, locals := 210 }) s m args below meth c H locs 0 0 (MQ below (mz_j D cy ad am Fa Ga Ra Sa (fun r => 0 ≤ r.toInt ∧ r.toInt ≤ 1 ∧ 0 ≤ r.toInt ∧ r.toInt ≤ 1)) args s 0 0 (mz_W ad am)) (F0 m 36 ls []) := by
        intro H locs hM hS ls hl
        refine lv_iload_n hx hb dX13_isCompared_36 rfl (lv_at hl 0 rfl) ?_
        refine lv_if_lt (tgt := 63) hx hb dX13_isCompared_37 (by decide) (fun c9 => ?_) (fun c9 => ?_)
        · have hc305 : v46.toInt < 0 := (fi_lt rfl (show (0 : Int32).toInt = 0 by decide)).mp c9
          refine lv_iconst (v := 0) hx hb dX13_isCompared_63 (by decide) ?_
          have hk_0 : (0 : Int32).toInt = 0 := by decide
          exact mz_jret (v := 0) hx hb hr rfl hlocks ⟨(by omega), (by omega), (by omega), (by omega)⟩ hM hS dX13_isCompared_64
        · have hc305 : ¬ (v46.toInt < 0) := fun h9 => c9 ((fi_lt rfl (show (0 : Int32).toInt = 0 by decide)).mpr h9)
          refine lv_aload_n hx hb dX13_isCompared_40 rfl (lv_at hl 1 rfl) ?_
          refine mz_getR hx hb htl hown hK hM 27 (Nat.le_of_ble_eq_true rfl) (Nat.le_of_ble_eq_true rfl) (htl _ mw_200) (fun _ h9 => h9) dX13_isCompared_41 ?_
          refine lv_iload_n hx hb dX13_isCompared_44 rfl (lv_at hl 0 rfl) ?_
          refine mz_iald hx hb hK hM 27 (Nat.le_of_ble_eq_true rfl) rfl (nn := 400) rfl rfl (by omega) (by omega) dX13_isCompared_45 (fun v306 e_v306 => ?_)
          have hq_v306 := tk_rng v306
          obtain ⟨w307, e_w307, h_w307⟩ : ∃ z : Int64, v306.toInt64 = z ∧ z.toInt = v306.toInt := ⟨_, rfl, fl_w _⟩
          refine lv_i2l (v := w307) hx hb dX13_isCompared_46 e_w307 ?_
          refine lv_ldc2 hx hb hown (htl _ mw_784) dX13_isCompared_47 ?_
          refine lv_ldc2 hx hb hown (htl _ mw_785) dX13_isCompared_50 ?_
          have hk_25 : (25 : Int64).toInt = 25 := by decide
          have hk_27 : (27 : Int64).toInt = 27 := by decide
          refine mz_Sj (As := [.long w307, .long 25, .long 27]) (rest := []) ⟨hx, hb, hml, hown, hts⟩ hK hM hS (k_X13_in l D cy ld ad am hD _ _ _ _ w307 25 27) ⟨callB_of 3 hts (wl_in mw_292) rfl rfl rfl (htl _ mw_5) (htl _ mw_290) hd_yX13_in ⟨(Nat.le_of_ble_eq_true rfl), (Nat.le_of_ble_eq_true rfl)⟩, htl _ mw_291⟩ rfl hl.1 rfl (Nat.le_of_ble_eq_true rfl) dX13_isCompared_53 ⟨(Nat.le_of_ble_eq_true rfl), (Nat.le_of_ble_eq_true rfl)⟩ (fun v308 H locs hpo hM hS => ?_)
          obtain ⟨hpo309, hpo310, hpo311, hpo312, hpo313, hpo314⟩ := hpo
          have hq_v308 := tk_rng v308
          refine lv_if_eq (tgt := 63) hx hb dX13_isCompared_56 (by decide) (fun c9 => ?_) (fun c9 => ?_)
          · have hc316 : v308.toInt = 0 := (fi_eq rfl (show (0 : Int32).toInt = 0 by decide)).mp c9
            refine lv_iconst (v := 0) hx hb dX13_isCompared_63 (by decide) ?_
            have hk_0 : (0 : Int32).toInt = 0 := by decide
            exact mz_jret (v := 0) hx hb hr rfl hlocks ⟨(by omega), (by omega), (by omega), (by omega)⟩ hM hS dX13_isCompared_64
          · have hc316 : ¬ (v308.toInt = 0) := fun h9 => c9 ((fi_eq rfl (show (0 : Int32).toInt = 0 by decide)).mpr h9)
            refine lv_iconst (v := 1) hx hb dX13_isCompared_59 (by decide) ?_
            refine lv_goto (tgt := 64) hx hb dX13_isCompared_60 (by decide) ?_
            have hk_1 : (1 : Int32).toInt = 1 := by decide
            exact mz_jret (v := 1) hx hb hr rfl hlocks ⟨(by omega), (by omega), (by omega), (by omega)⟩ hM hS dX13_isCompared_64
      refine lv_if_lt (tgt := 36) hx hb dX13_isCompared_8 (by decide) (fun c9 => ?_) (fun c9 => ?_)
      · have hc289 : v46.toInt < 0 := (fi_lt rfl (show (0 : Int32).toInt = 0 by decide)).mp c9
        exact hj304 _ _ hM hS _ (lv_sub hl [0, 1] rfl)
      · have hc289 : ¬ (v46.toInt < 0) := fun h9 => c9 ((fi_lt rfl (show (0 : Int32).toInt = 0 by decide)).mpr h9)
        refine lv_aload_n hx hb dX13_isCompared_11 rfl (lv_at hl 1 rfl) ?_
        refine mz_getR hx hb htl hown hK hM 27 (Nat.le_of_ble_eq_true rfl) (Nat.le_of_ble_eq_true rfl) (htl _ mw_200) (fun _ h9 => h9) dX13_isCompared_12 ?_
        refine lv_iload_n hx hb dX13_isCompared_15 rfl (lv_at hl 0 rfl) ?_
        refine mz_iald hx hb hK hM 27 (Nat.le_of_ble_eq_true rfl) rfl (nn := 400) rfl rfl (by omega) (by omega) dX13_isCompared_16 (fun v317 e_v317 => ?_)
        have hq_v317 := tk_rng v317
        obtain ⟨w318, e_w318, h_w318⟩ : ∃ z : Int64, v317.toInt64 = z ∧ z.toInt = v317.toInt := ⟨_, rfl, fl_w _⟩
        refine lv_i2l (v := w318) hx hb dX13_isCompared_17 e_w318 ?_
        refine lv_ldc2 hx hb hown (htl _ mw_782) dX13_isCompared_18 ?_
        refine lv_ldc2 hx hb hown (htl _ mw_783) dX13_isCompared_21 ?_
        have hk_20 : (20 : Int64).toInt = 20 := by decide
        have hk_24 : (24 : Int64).toInt = 24 := by decide
        refine mz_Sj (As := [.long w318, .long 20, .long 24]) (rest := []) ⟨hx, hb, hml, hown, hts⟩ hK hM hS (k_X13_in l D cy ld ad am hD _ _ _ _ w318 20 24) ⟨callB_of 3 hts (wl_in mw_292) rfl rfl rfl (htl _ mw_5) (htl _ mw_290) hd_yX13_in ⟨(Nat.le_of_ble_eq_true rfl), (Nat.le_of_ble_eq_true rfl)⟩, htl _ mw_291⟩ rfl hl.1 rfl (Nat.le_of_ble_eq_true rfl) dX13_isCompared_24 ⟨(Nat.le_of_ble_eq_true rfl), (Nat.le_of_ble_eq_true rfl)⟩ (fun v319 H locs hpo hM hS => ?_)
        obtain ⟨hpo320, hpo321, hpo322, hpo323, hpo324, hpo325⟩ := hpo
        have hq_v319 := tk_rng v319
        refine lv_if_eq (tgt := 36) hx hb dX13_isCompared_27 (by decide) (fun c9 => ?_) (fun c9 => ?_)
        · have hc327 : v319.toInt = 0 := (fi_eq rfl (show (0 : Int32).toInt = 0 by decide)).mp c9
          exact hj304 _ _ hM hS _ (lv_sub hl [0, 1] rfl)
        · have hc327 : ¬ (v319.toInt = 0) := fun h9 => c9 ((fi_eq rfl (show (0 : Int32).toInt = 0 by decide)).mpr h9)
          obtain ⟨v328, h_v328, e_v328⟩ := tk_inc v46 (-1) (by decide) (by omega) (by omega)
          refine lv_iinc (v := v328) (lv' := [(1, .int v328), (0, .ref am)]) hx hb dX13_isCompared_30 hl (k := 0) rfl e_v328 (by decide) rfl (fun ls hl => ?_)
          refine lv_goto (tgt := 7) hx hb dX13_isCompared_33 (by decide) ?_
          exact ih_l288 v328 _ _ (by omega) (by omega) hM hS (by omega) _ (lv_sub hl [0, 1] rfl)
  exact hl288 401 v3 _ _ (by omega) (by omega) hM hS (by omega) _ (lv_sub hl [0, 1] rfl)
theorem hd_yX13_isWord : yX13_isWord.cls ≠ "java/lang/invoke/MethodHandle" ∧ yX13_isWord.cls ≠ "java/lang/invoke/VarHandle" ∧ (parseMethodDescriptor yX13_isWord.desc).map (fun d => d.parameters.length) = some 1 := by decide +kernel
theorem dX13_partAt_0 : decode cX13_partAt 0 = .ok (.iconst (-1), 1) := by decide +kernel
theorem dX13_partAt_1 : decode cX13_partAt 1 = .ok (.istore_n 1, 1) := by decide +kernel
theorem dX13_partAt_2 : decode cX13_partAt 2 = .ok (.iconst 0, 1) := by decide +kernel
theorem dX13_partAt_3 : decode cX13_partAt 3 = .ok (.istore_n 2, 1) := by decide +kernel
theorem dX13_partAt_4 : decode cX13_partAt 4 = .ok (.iload_n 2, 1) := by decide +kernel
theorem dX13_partAt_5 : decode cX13_partAt 5 = .ok (.bipush 9, 2) := by decide +kernel
theorem dX13_partAt_7 : decode cX13_partAt 7 = .ok (.if_icmp .ge 30, 3) := by decide +kernel
theorem dX13_partAt_37 : decode cX13_partAt 37 = .ok (.iload_n 1, 1) := by decide +kernel
theorem dX13_partAt_38 : decode cX13_partAt 38 = .ok (.ireturn, 1) := by decide +kernel
theorem dX13_partAt_10 : decode cX13_partAt 10 = .ok (.aload_n 0, 1) := by decide +kernel
theorem dX13_partAt_11 : decode cX13_partAt 11 = .ok (.aload_n 0, 1) := by decide +kernel
theorem dX13_partAt_12 : decode cX13_partAt 12 = .ok (.getfield 75, 3) := by decide +kernel
theorem dX13_partAt_15 : decode cX13_partAt 15 = .ok (.iload_n 2, 1) := by decide +kernel
theorem dX13_partAt_16 : decode cX13_partAt 16 = .ok (.laload, 1) := by decide +kernel
theorem dX13_partAt_17 : decode cX13_partAt 17 = .ok (.invokevirtual 296, 3) := by decide +kernel
theorem dX13_partAt_30 : decode cX13_partAt 30 = .ok (.istore_n 1, 1) := by decide +kernel
theorem dX13_partAt_31 : decode cX13_partAt 31 = .ok (.iinc 2 1, 3) := by decide +kernel
theorem dX13_partAt_34 : decode cX13_partAt 34 = .ok (.goto (-30), 3) := by decide +kernel
theorem dX13_partAt_20 : decode cX13_partAt 20 = .ok (.ifCond .eq 9, 3) := by decide +kernel
theorem dX13_partAt_29 : decode cX13_partAt 29 = .ok (.iload_n 1, 1) := by decide +kernel
theorem dX13_partAt_23 : decode cX13_partAt 23 = .ok (.iload_n 2, 1) := by decide +kernel
theorem dX13_partAt_24 : decode cX13_partAt 24 = .ok (.iconst 1, 1) := by decide +kernel
theorem dX13_partAt_25 : decode cX13_partAt 25 = .ok (.iadd, 1) := by decide +kernel
theorem dX13_partAt_26 : decode cX13_partAt 26 = .ok (.goto 4, 3) := by decide +kernel
set_option maxHeartbeats 4000000 in
set_option maxRecDepth 100000 in
theorem k_X13_partAt (l : Launch) (D : va_G) (cy : Nat → ClassId) (ld ad : Nat → Nat) (am : Nat) (hD : mz_D ad am) (Fa : Nat → Int32) (Ga : Nat → Int64) (Ra : Nat → Nat → Int32) (Sa : Nat → Nat → Int64) (hIF : mz_IF true Fa) (hIG : mz_IG Ga) (hIR : mz_IR [] true Ra) : Met l yX13_partAt (wl yX13_partAt cX13_partAt 3 (some .int)) ({ frames := 4, cells := 0, slots := 0, locals := 210 }) (mz_p D cy ld ad am Fa Ga Ra Sa [.ref am]) (mz_j D cy ad am Fa Ga Ra Sa (fun r => (-1) ≤ r.toInt ∧ r.toInt ≤ 31)) 0 0 (mz_W ad am) := by
  refine mz_met (y := yX13_partAt) (cc := cX13_partAt) (maxL := 3) (ret := (some .int)) (av := [.ref am]) _ (by decide) (Nat.le_of_ble_eq_true rfl) ?_
  intro p e s m args below meth c hx hb hr hml hts htl hown hlocks hK H locs hM hS ls hl
  have hown : s.vm.findClass RX13 = some m.cls := hown
  have hl : lv_has ls 3 [(0, .ref am)] := hl
  refine lv_iconst (v := (-1)) hx hb dX13_partAt_0 (by decide) ?_
  refine lv_istore_n (lv' := [(1, .int (-1)), (0, .ref am)]) hx hb dX13_partAt_1 rfl hl (by decide) rfl (fun ls hl => ?_)
  refine lv_iconst (v := 0) hx hb dX13_partAt_2 (by decide) ?_
  refine lv_istore_n (lv' := [(2, .int 0), (1, .int (-1)), (0, .ref am)]) hx hb dX13_partAt_3 rfl hl (by decide) rfl (fun ls hl => ?_)
  have hl224 : ∀ (N_l224 : Nat) (v33 : Int32) (v34 : Int32) (H : Heap) (locs : List Loc), (v33.toInt ≤ 9) → (0 ≤ v33.toInt) → ((-1) ≤ v34.toInt) → (v34.toInt ≤ 31) → (mz_S D cy ad am Fa Ga Ra Sa H) → (va_S (mz_W ad am) s.heap H locs) → ((-1) * v33.toInt + 9 < (N_l224 : Int)) → ∀ ls : Array Slot, lv_has ls 3 [(2, .int v33), (1, .int v34), (0, .ref am)] → W p l e ({ frames := 4, cells := 0, slots := 0, locals := 210 }) s m args below meth c H locs 0 0 (MQ below (mz_j D cy ad am Fa Ga Ra Sa (fun r => (-1) ≤ r.toInt ∧ r.toInt ≤ 31)) args s 0 0 (mz_W ad am)) (F0 m 4 ls []) := by
    intro N_l224
    induction N_l224 with
    | zero => intro v33 v34 H locs hq0_l224 hq1_l224 hq2_l224 hq3_l224 hM hS hm_l224 ls hl; exfalso; omega
    | succ N_l224 ih_l224 =>
      intro v33 v34 H locs hq0_l224 hq1_l224 hq2_l224 hq3_l224 hM hS hm_l224 ls hl
      refine lv_iload_n hx hb dX13_partAt_4 rfl (lv_at hl 0 rfl) ?_
      refine lv_bipush (v := 9) hx hb dX13_partAt_5 (by decide) ?_
      refine lv_icmp_ge (tgt := 37) hx hb dX13_partAt_7 (by decide) (fun c9 => ?_) (fun c9 => ?_)
      · have hc225 : 9 ≤ v33.toInt := (fi_le (show (9 : Int32).toInt = 9 by decide) rfl).mp c9
        refine lv_iload_n hx hb dX13_partAt_37 rfl (lv_at hl 1 rfl) ?_
        exact mz_jret (v := v34) hx hb hr rfl hlocks ⟨(by omega), (by omega)⟩ hM hS dX13_partAt_38
      · have hc225 : ¬ (9 ≤ v33.toInt) := fun h9 => c9 ((fi_le (show (9 : Int32).toInt = 9 by decide) rfl).mpr h9)
        refine lv_aload_n hx hb dX13_partAt_10 rfl (lv_at hl 2 rfl) ?_
        refine lv_aload_n hx hb dX13_partAt_11 rfl (lv_at hl 2 rfl) ?_
        refine mz_getR hx hb htl hown hK hM 31 (Nat.le_of_ble_eq_true rfl) (Nat.le_of_ble_eq_true rfl) (htl _ mw_212) (fun _ h9 => h9) dX13_partAt_12 ?_
        refine lv_iload_n hx hb dX13_partAt_15 rfl (lv_at hl 0 rfl) ?_
        refine mz_lald hx hb hK hM 31 (Nat.le_of_ble_eq_true rfl) rfl (nn := 9) rfl rfl (by omega) (by omega) dX13_partAt_16 (fun w240 _ => ?_)
        refine mz_Vj (As := [.long w240]) (rest := []) ⟨hx, hb, hml, hown, hts⟩ hK hM hS (k_X13_isWord l D cy ld ad am hD _ _ _ _ w240 hIF hIG hIR) ⟨callB_of 1 hts (wl_in mw_709) rfl rfl rfl (htl _ mw_5) (htl _ mw_706) hd_yX13_isWord ⟨(Nat.le_of_ble_eq_true rfl), (Nat.le_of_ble_eq_true rfl)⟩, htl _ mw_707, htl _ mw_708⟩ rfl hl.1 rfl (Nat.le_of_ble_eq_true rfl) dX13_partAt_17 ⟨(Nat.le_of_ble_eq_true rfl), (Nat.le_of_ble_eq_true rfl)⟩ (fun v241 H locs hpo hM hS => ?_)
        obtain ⟨hpo242, hpo243, hpo244, hpo245⟩ := hpo
        have hq_v241 := tk_rng v241
        have hj251 : ∀ (v250 : Int32), ((-1) ≤ v250.toInt) → (v250.toInt ≤ 31) → ∀ ls : Array Slot, lv_has ls 3 [(2, .int v33), (0, .ref am)] → W p l e ({ frames := 4, cells := 0, slots := 0, locals := 210 }) s m args below meth c H locs 0 0 (MQ below (mz_j D cy ad am Fa Ga Ra Sa (fun r => (-1) ≤ r.toInt ∧ r.toInt ≤ 31)) args s 0 0 (mz_W ad am)) (F0 m 30 ls [.int v250]) := by
          intro v250 hq0_j251 hq1_j251 ls hl
          refine lv_istore_n (lv' := [(1, .int v250), (2, .int v33), (0, .ref am)]) hx hb dX13_partAt_30 rfl hl (by decide) rfl (fun ls hl => ?_)
          obtain ⟨v252, h_v252, e_v252⟩ := tk_inc v33 1 (by decide) (by omega) (by omega)
          refine lv_iinc (v := v252) (lv' := [(2, .int v252), (1, .int v250), (0, .ref am)]) hx hb dX13_partAt_31 hl (k := 1) rfl e_v252 (by decide) rfl (fun ls hl => ?_)
          refine lv_goto (tgt := 4) hx hb dX13_partAt_34 (by decide) ?_
          exact ih_l224 v252 v250 _ _ (by omega) (by omega) (by omega) (by omega) hM hS (by omega) _ (lv_sub hl [0, 1, 2] rfl)
        refine lv_if_eq (tgt := 29) hx hb dX13_partAt_20 (by decide) (fun c9 => ?_) (fun c9 => ?_)
        · have hc247 : v241.toInt = 0 := (fi_eq rfl (show (0 : Int32).toInt = 0 by decide)).mp c9
          refine lv_iload_n hx hb dX13_partAt_29 rfl (lv_at hl 1 rfl) ?_
          exact hj251 v34 (by omega) (by omega) _ (lv_sub hl [0, 2] rfl)
        · have hc247 : ¬ (v241.toInt = 0) := fun h9 => c9 ((fi_eq rfl (show (0 : Int32).toInt = 0 by decide)).mpr h9)
          refine lv_iload_n hx hb dX13_partAt_23 rfl (lv_at hl 0 rfl) ?_
          refine lv_iconst (v := 1) hx hb dX13_partAt_24 (by decide) ?_
          refine lv_iadd hx hb dX13_partAt_25 ?_
          refine tk_add rfl (show (1 : Int32).toInt = 1 by decide) (by omega) (by omega) (fun v253 h_v253 => ?_)
          refine lv_goto (tgt := 30) hx hb dX13_partAt_26 (by decide) ?_
          exact hj251 v253 (by omega) (by omega) _ (lv_sub hl [0, 2] rfl)
  have hk_0 : (0 : Int32).toInt = 0 := by decide
  have hk_m1 : ((-1) : Int32).toInt = (-1) := by decide
  exact hl224 10 0 (-1) _ _ (by omega) (by omega) (by omega) (by omega) hM hS (by omega) _ (lv_sub hl [0, 1, 2] rfl)
theorem dX13_orderPartAt_0 : decode cX13_orderPartAt 0 = .ok (.iconst (-1), 1) := by decide +kernel
theorem dX13_orderPartAt_1 : decode cX13_orderPartAt 1 = .ok (.istore_n 1, 1) := by decide +kernel
theorem dX13_orderPartAt_2 : decode cX13_orderPartAt 2 = .ok (.iconst 0, 1) := by decide +kernel
theorem dX13_orderPartAt_3 : decode cX13_orderPartAt 3 = .ok (.istore_n 2, 1) := by decide +kernel
theorem dX13_orderPartAt_4 : decode cX13_orderPartAt 4 = .ok (.iload_n 2, 1) := by decide +kernel
theorem dX13_orderPartAt_5 : decode cX13_orderPartAt 5 = .ok (.bipush 7, 2) := by decide +kernel
theorem dX13_orderPartAt_7 : decode cX13_orderPartAt 7 = .ok (.if_icmp .ge 30, 3) := by decide +kernel
theorem dX13_orderPartAt_37 : decode cX13_orderPartAt 37 = .ok (.iload_n 1, 1) := by decide +kernel
theorem dX13_orderPartAt_38 : decode cX13_orderPartAt 38 = .ok (.ireturn, 1) := by decide +kernel
theorem dX13_orderPartAt_10 : decode cX13_orderPartAt 10 = .ok (.aload_n 0, 1) := by decide +kernel
theorem dX13_orderPartAt_11 : decode cX13_orderPartAt 11 = .ok (.aload_n 0, 1) := by decide +kernel
theorem dX13_orderPartAt_12 : decode cX13_orderPartAt 12 = .ok (.getfield 87, 3) := by decide +kernel
theorem dX13_orderPartAt_15 : decode cX13_orderPartAt 15 = .ok (.iload_n 2, 1) := by decide +kernel
theorem dX13_orderPartAt_16 : decode cX13_orderPartAt 16 = .ok (.laload, 1) := by decide +kernel
theorem dX13_orderPartAt_17 : decode cX13_orderPartAt 17 = .ok (.invokevirtual 296, 3) := by decide +kernel
theorem dX13_orderPartAt_30 : decode cX13_orderPartAt 30 = .ok (.istore_n 1, 1) := by decide +kernel
theorem dX13_orderPartAt_31 : decode cX13_orderPartAt 31 = .ok (.iinc 2 1, 3) := by decide +kernel
theorem dX13_orderPartAt_34 : decode cX13_orderPartAt 34 = .ok (.goto (-30), 3) := by decide +kernel
theorem dX13_orderPartAt_20 : decode cX13_orderPartAt 20 = .ok (.ifCond .eq 9, 3) := by decide +kernel
theorem dX13_orderPartAt_29 : decode cX13_orderPartAt 29 = .ok (.iload_n 1, 1) := by decide +kernel
theorem dX13_orderPartAt_23 : decode cX13_orderPartAt 23 = .ok (.iload_n 2, 1) := by decide +kernel
theorem dX13_orderPartAt_24 : decode cX13_orderPartAt 24 = .ok (.iconst 1, 1) := by decide +kernel
theorem dX13_orderPartAt_25 : decode cX13_orderPartAt 25 = .ok (.iadd, 1) := by decide +kernel
theorem dX13_orderPartAt_26 : decode cX13_orderPartAt 26 = .ok (.goto 4, 3) := by decide +kernel
set_option maxHeartbeats 4000000 in
set_option maxRecDepth 100000 in
theorem k_X13_orderPartAt (l : Launch) (D : va_G) (cy : Nat → ClassId) (ld ad : Nat → Nat) (am : Nat) (hD : mz_D ad am) (Fa : Nat → Int32) (Ga : Nat → Int64) (Ra : Nat → Nat → Int32) (Sa : Nat → Nat → Int64) (hIF : mz_IF true Fa) (hIG : mz_IG Ga) (hIR : mz_IR [] true Ra) : Met l yX13_orderPartAt (wl yX13_orderPartAt cX13_orderPartAt 3 (some .int)) ({ frames := 4, cells := 0, slots := 0, locals := 210 }) (mz_p D cy ld ad am Fa Ga Ra Sa [.ref am]) (mz_j D cy ad am Fa Ga Ra Sa (fun r => (-1) ≤ r.toInt ∧ r.toInt ≤ 31)) 0 0 (mz_W ad am) := by
  refine mz_met (y := yX13_orderPartAt) (cc := cX13_orderPartAt) (maxL := 3) (ret := (some .int)) (av := [.ref am]) _ (by decide) (Nat.le_of_ble_eq_true rfl) ?_
  intro p e s m args below meth c hx hb hr hml hts htl hown hlocks hK H locs hM hS ls hl
  have hown : s.vm.findClass RX13 = some m.cls := hown
  have hl : lv_has ls 3 [(0, .ref am)] := hl
  refine lv_iconst (v := (-1)) hx hb dX13_orderPartAt_0 (by decide) ?_
  refine lv_istore_n (lv' := [(1, .int (-1)), (0, .ref am)]) hx hb dX13_orderPartAt_1 rfl hl (by decide) rfl (fun ls hl => ?_)
  refine lv_iconst (v := 0) hx hb dX13_orderPartAt_2 (by decide) ?_
  refine lv_istore_n (lv' := [(2, .int 0), (1, .int (-1)), (0, .ref am)]) hx hb dX13_orderPartAt_3 rfl hl (by decide) rfl (fun ls hl => ?_)
  have hl224 : ∀ (N_l224 : Nat) (v33 : Int32) (v34 : Int32) (H : Heap) (locs : List Loc), (v33.toInt ≤ 7) → (0 ≤ v33.toInt) → ((-1) ≤ v34.toInt) → (v34.toInt ≤ 31) → (mz_S D cy ad am Fa Ga Ra Sa H) → (va_S (mz_W ad am) s.heap H locs) → ((-1) * v33.toInt + 7 < (N_l224 : Int)) → ∀ ls : Array Slot, lv_has ls 3 [(2, .int v33), (1, .int v34), (0, .ref am)] → W p l e ({ frames := 4, cells := 0, slots := 0, locals := 210 }) s m args below meth c H locs 0 0 (MQ below (mz_j D cy ad am Fa Ga Ra Sa (fun r => (-1) ≤ r.toInt ∧ r.toInt ≤ 31)) args s 0 0 (mz_W ad am)) (F0 m 4 ls []) := by
    intro N_l224
    induction N_l224 with
    | zero => intro v33 v34 H locs hq0_l224 hq1_l224 hq2_l224 hq3_l224 hM hS hm_l224 ls hl; exfalso; omega
    | succ N_l224 ih_l224 =>
      intro v33 v34 H locs hq0_l224 hq1_l224 hq2_l224 hq3_l224 hM hS hm_l224 ls hl
      refine lv_iload_n hx hb dX13_orderPartAt_4 rfl (lv_at hl 0 rfl) ?_
      refine lv_bipush (v := 7) hx hb dX13_orderPartAt_5 (by decide) ?_
      refine lv_icmp_ge (tgt := 37) hx hb dX13_orderPartAt_7 (by decide) (fun c9 => ?_) (fun c9 => ?_)
      · have hc225 : 7 ≤ v33.toInt := (fi_le (show (7 : Int32).toInt = 7 by decide) rfl).mp c9
        refine lv_iload_n hx hb dX13_orderPartAt_37 rfl (lv_at hl 1 rfl) ?_
        exact mz_jret (v := v34) hx hb hr rfl hlocks ⟨(by omega), (by omega)⟩ hM hS dX13_orderPartAt_38
      · have hc225 : ¬ (7 ≤ v33.toInt) := fun h9 => c9 ((fi_le (show (7 : Int32).toInt = 7 by decide) rfl).mpr h9)
        refine lv_aload_n hx hb dX13_orderPartAt_10 rfl (lv_at hl 2 rfl) ?_
        refine lv_aload_n hx hb dX13_orderPartAt_11 rfl (lv_at hl 2 rfl) ?_
        refine mz_getR hx hb htl hown hK hM 32 (Nat.le_of_ble_eq_true rfl) (Nat.le_of_ble_eq_true rfl) (htl _ mw_217) (fun _ h9 => h9) dX13_orderPartAt_12 ?_
        refine lv_iload_n hx hb dX13_orderPartAt_15 rfl (lv_at hl 0 rfl) ?_
        refine mz_lald hx hb hK hM 32 (Nat.le_of_ble_eq_true rfl) rfl (nn := 7) rfl rfl (by omega) (by omega) dX13_orderPartAt_16 (fun w240 _ => ?_)
        refine mz_Vj (As := [.long w240]) (rest := []) ⟨hx, hb, hml, hown, hts⟩ hK hM hS (k_X13_isWord l D cy ld ad am hD _ _ _ _ w240 hIF hIG hIR) ⟨callB_of 1 hts (wl_in mw_709) rfl rfl rfl (htl _ mw_5) (htl _ mw_706) hd_yX13_isWord ⟨(Nat.le_of_ble_eq_true rfl), (Nat.le_of_ble_eq_true rfl)⟩, htl _ mw_707, htl _ mw_708⟩ rfl hl.1 rfl (Nat.le_of_ble_eq_true rfl) dX13_orderPartAt_17 ⟨(Nat.le_of_ble_eq_true rfl), (Nat.le_of_ble_eq_true rfl)⟩ (fun v241 H locs hpo hM hS => ?_)
        obtain ⟨hpo242, hpo243, hpo244, hpo245⟩ := hpo
        have hq_v241 := tk_rng v241
        have hj251 : ∀ (v250 : Int32), ((-1) ≤ v250.toInt) → (v250.toInt ≤ 31) → ∀ ls : Array Slot, lv_has ls 3 [(2, .int v33), (0, .ref am)] → W p l e ({ frames := 4, cells := 0, slots := 0, locals := 210 }) s m args below meth c H locs 0 0 (MQ below (mz_j D cy ad am Fa Ga Ra Sa (fun r => (-1) ≤ r.toInt ∧ r.toInt ≤ 31)) args s 0 0 (mz_W ad am)) (F0 m 30 ls [.int v250]) := by
          intro v250 hq0_j251 hq1_j251 ls hl
          refine lv_istore_n (lv' := [(1, .int v250), (2, .int v33), (0, .ref am)]) hx hb dX13_orderPartAt_30 rfl hl (by decide) rfl (fun ls hl => ?_)
          obtain ⟨v252, h_v252, e_v252⟩ := tk_inc v33 1 (by decide) (by omega) (by omega)
          refine lv_iinc (v := v252) (lv' := [(2, .int v252), (1, .int v250), (0, .ref am)]) hx hb dX13_orderPartAt_31 hl (k := 1) rfl e_v252 (by decide) rfl (fun ls hl => ?_)
          refine lv_goto (tgt := 4) hx hb dX13_orderPartAt_34 (by decide) ?_
          exact ih_l224 v252 v250 _ _ (by omega) (by omega) (by omega) (by omega) hM hS (by omega) _ (lv_sub hl [0, 1, 2] rfl)
        refine lv_if_eq (tgt := 29) hx hb dX13_orderPartAt_20 (by decide) (fun c9 => ?_) (fun c9 => ?_)
        · have hc247 : v241.toInt = 0 := (fi_eq rfl (show (0 : Int32).toInt = 0 by decide)).mp c9
          refine lv_iload_n hx hb dX13_orderPartAt_29 rfl (lv_at hl 1 rfl) ?_
          exact hj251 v34 (by omega) (by omega) _ (lv_sub hl [0, 2] rfl)
        · have hc247 : ¬ (v241.toInt = 0) := fun h9 => c9 ((fi_eq rfl (show (0 : Int32).toInt = 0 by decide)).mpr h9)
          refine lv_iload_n hx hb dX13_orderPartAt_23 rfl (lv_at hl 0 rfl) ?_
          refine lv_iconst (v := 1) hx hb dX13_orderPartAt_24 (by decide) ?_
          refine lv_iadd hx hb dX13_orderPartAt_25 ?_
          refine tk_add rfl (show (1 : Int32).toInt = 1 by decide) (by omega) (by omega) (fun v253 h_v253 => ?_)
          refine lv_goto (tgt := 30) hx hb dX13_orderPartAt_26 (by decide) ?_
          exact hj251 v253 (by omega) (by omega) _ (lv_sub hl [0, 2] rfl)
  have hk_0 : (0 : Int32).toInt = 0 := by decide
  have hk_m1 : ((-1) : Int32).toInt = (-1) := by decide
  exact hl224 8 0 (-1) _ _ (by omega) (by omega) (by omega) (by omega) hM hS (by omega) _ (lv_sub hl [0, 1, 2] rfl)
set_option maxHeartbeats 4000000 in
set_option maxRecDepth 100000 in
theorem k_X13_term_0 (l : Launch) (D : va_G) (cy : Nat → ClassId) (ld ad : Nat → Nat) (am : Nat) (hD : mz_D ad am) (Fa : Nat → Int32) (Ga : Nat → Int64) (Ra : Nat → Nat → Int32) (Sa : Nat → Nat → Int64) (g0 : Int32) (hg_0 : Ra 3 6 = g0) : Met l yX13_term (wl yX13_term cX13_term 2 (some .int)) ({ frames := 3, cells := 0, slots := 0, locals := 140 }) (mz_p D cy ld ad am Fa Ga Ra Sa [.ref am, .int 0]) (mz_j D cy ad am Fa Ga Ra Sa (fun r => (-1) * g0.toInt + r.toInt = 0)) 0 0 (mz_W ad am) := by
  refine mz_met (y := yX13_term) (cc := cX13_term) (maxL := 2) (ret := (some .int)) (av := [.ref am, .int 0]) _ (by decide) (Nat.le_of_ble_eq_true rfl) ?_
  intro p e s m args below meth c hx hb hr hml hts htl hown hlocks hK H locs hM hS ls hl
  have hown : s.vm.findClass RX13 = some m.cls := hown
  have hl : lv_has ls 2 [(0, .ref am), (1, .int 0)] := hl
  have hq_g0 := tk_rng g0
  refine lv_aload_n hx hb dX13_term_0 rfl (lv_at hl 0 rfl) ?_
  refine mz_getR hx hb htl hown hK hM 3 (Nat.le_of_ble_eq_true rfl) (Nat.le_of_ble_eq_true rfl) (htl _ mw_188) (fun _ h9 => h9) dX13_term_1 ?_
  refine lv_bipush (v := 6) hx hb dX13_term_4 (by decide) ?_
  refine lv_iload_n hx hb dX13_term_6 rfl (lv_at hl 1 rfl) ?_
  refine lv_iadd hx hb dX13_term_7 ?_
  refine fx_ti (v := 6) (by decide) ?_
  refine mz_iald hx hb hK hM 3 (Nat.le_of_ble_eq_true rfl) rfl (nn := 5560) rfl (I := 6) (by decide) (by decide) (by decide) dX13_term_8 (fun v9 e9 => ?_)
  refine fx_ti (v := g0) (e9.symm.trans (show Ra 3 (6 : Int32).toNatClampNeg = _ from hg_0)) ?_
  exact mz_jret (v := g0) hx hb hr rfl hlocks (by omega) hM hS dX13_term_9
set_option maxHeartbeats 4000000 in
set_option maxRecDepth 100000 in
theorem k_X13_term_3 (l : Launch) (D : va_G) (cy : Nat → ClassId) (ld ad : Nat → Nat) (am : Nat) (hD : mz_D ad am) (Fa : Nat → Int32) (Ga : Nat → Int64) (Ra : Nat → Nat → Int32) (Sa : Nat → Nat → Int64) (g0 : Int32) (hg_0 : Ra 3 9 = g0) : Met l yX13_term (wl yX13_term cX13_term 2 (some .int)) ({ frames := 3, cells := 0, slots := 0, locals := 140 }) (mz_p D cy ld ad am Fa Ga Ra Sa [.ref am, .int 3]) (mz_j D cy ad am Fa Ga Ra Sa (fun r => (-1) * g0.toInt + r.toInt = 0)) 0 0 (mz_W ad am) := by
  refine mz_met (y := yX13_term) (cc := cX13_term) (maxL := 2) (ret := (some .int)) (av := [.ref am, .int 3]) _ (by decide) (Nat.le_of_ble_eq_true rfl) ?_
  intro p e s m args below meth c hx hb hr hml hts htl hown hlocks hK H locs hM hS ls hl
  have hown : s.vm.findClass RX13 = some m.cls := hown
  have hl : lv_has ls 2 [(0, .ref am), (1, .int 3)] := hl
  have hq_g0 := tk_rng g0
  refine lv_aload_n hx hb dX13_term_0 rfl (lv_at hl 0 rfl) ?_
  refine mz_getR hx hb htl hown hK hM 3 (Nat.le_of_ble_eq_true rfl) (Nat.le_of_ble_eq_true rfl) (htl _ mw_188) (fun _ h9 => h9) dX13_term_1 ?_
  refine lv_bipush (v := 6) hx hb dX13_term_4 (by decide) ?_
  refine lv_iload_n hx hb dX13_term_6 rfl (lv_at hl 1 rfl) ?_
  refine lv_iadd hx hb dX13_term_7 ?_
  refine fx_ti (v := 9) (by decide) ?_
  refine mz_iald hx hb hK hM 3 (Nat.le_of_ble_eq_true rfl) rfl (nn := 5560) rfl (I := 9) (by decide) (by decide) (by decide) dX13_term_8 (fun v9 e9 => ?_)
  refine fx_ti (v := g0) (e9.symm.trans (show Ra 3 (9 : Int32).toNatClampNeg = _ from hg_0)) ?_
  exact mz_jret (v := g0) hx hb hr rfl hlocks (by omega) hM hS dX13_term_9
theorem hd_yX13_term : yX13_term.cls ≠ "java/lang/invoke/MethodHandle" ∧ yX13_term.cls ≠ "java/lang/invoke/VarHandle" ∧ (parseMethodDescriptor yX13_term.desc).map (fun d => d.parameters.length) = some 1 := by decide +kernel
theorem dX13_setSung_0 : decode cX13_setSung 0 = .ok (.aload_n 0, 1) := by decide +kernel
theorem dX13_setSung_1 : decode cX13_setSung 1 = .ok (.getfield 101, 3) := by decide +kernel
theorem dX13_setSung_4 : decode cX13_setSung 4 = .ok (.iconst 1, 1) := by decide +kernel
theorem dX13_setSung_5 : decode cX13_setSung 5 = .ok (.iload_n 2, 1) := by decide +kernel
theorem dX13_setSung_6 : decode cX13_setSung 6 = .ok (.i2l, 1) := by decide +kernel
theorem dX13_setSung_7 : decode cX13_setSung 7 = .ok (.lastore, 1) := by decide +kernel
theorem dX13_setSung_8 : decode cX13_setSung 8 = .ok (.aload_n 0, 1) := by decide +kernel
theorem dX13_setSung_9 : decode cX13_setSung 9 = .ok (.getfield 101, 3) := by decide +kernel
theorem dX13_setSung_12 : decode cX13_setSung 12 = .ok (.iconst 2, 1) := by decide +kernel
theorem dX13_setSung_13 : decode cX13_setSung 13 = .ok (.iload_n 1, 1) := by decide +kernel
theorem dX13_setSung_14 : decode cX13_setSung 14 = .ok (.iconst (-1), 1) := by decide +kernel
theorem dX13_setSung_36 : decode cX13_setSung 36 = .ok (.lastore, 1) := by decide +kernel
theorem dX13_setSung_37 : decode cX13_setSung 37 = .ok (.aload_n 0, 1) := by decide +kernel
theorem dX13_setSung_38 : decode cX13_setSung 38 = .ok (.getfield 101, 3) := by decide +kernel
theorem dX13_setSung_41 : decode cX13_setSung 41 = .ok (.iconst 3, 1) := by decide +kernel
theorem dX13_setSung_42 : decode cX13_setSung 42 = .ok (.iload_n 1, 1) := by decide +kernel
theorem dX13_setSung_43 : decode cX13_setSung 43 = .ok (.iconst (-1), 1) := by decide +kernel
theorem dX13_setSung_67 : decode cX13_setSung 67 = .ok (.lastore, 1) := by decide +kernel
theorem dX13_setSung_68 : decode cX13_setSung 68 = .ok (.aload_n 0, 1) := by decide +kernel
theorem dX13_setSung_69 : decode cX13_setSung 69 = .ok (.getfield 101, 3) := by decide +kernel
theorem dX13_setSung_72 : decode cX13_setSung 72 = .ok (.iconst 4, 1) := by decide +kernel
theorem dX13_setSung_73 : decode cX13_setSung 73 = .ok (.iload_n 3, 1) := by decide +kernel
theorem dX13_setSung_74 : decode cX13_setSung 74 = .ok (.i2l, 1) := by decide +kernel
theorem dX13_setSung_75 : decode cX13_setSung 75 = .ok (.lastore, 1) := by decide +kernel
theorem dX13_setSung_76 : decode cX13_setSung 76 = .ok (.aload_n 0, 1) := by decide +kernel
theorem dX13_setSung_77 : decode cX13_setSung 77 = .ok (.getfield 101, 3) := by decide +kernel
theorem dX13_setSung_80 : decode cX13_setSung 80 = .ok (.iconst 5, 1) := by decide +kernel
theorem dX13_setSung_81 : decode cX13_setSung 81 = .ok (.iload 4, 2) := by decide +kernel
theorem dX13_setSung_83 : decode cX13_setSung 83 = .ok (.i2l, 1) := by decide +kernel
theorem dX13_setSung_84 : decode cX13_setSung 84 = .ok (.lastore, 1) := by decide +kernel
theorem dX13_setSung_85 : decode cX13_setSung 85 = .ok (.aload_n 0, 1) := by decide +kernel
theorem dX13_setSung_86 : decode cX13_setSung 86 = .ok (.getfield 101, 3) := by decide +kernel
theorem dX13_setSung_89 : decode cX13_setSung 89 = .ok (.bipush 6, 2) := by decide +kernel
theorem dX13_setSung_91 : decode cX13_setSung 91 = .ok (.iload 5, 2) := by decide +kernel
theorem dX13_setSung_93 : decode cX13_setSung 93 = .ok (.i2l, 1) := by decide +kernel
theorem dX13_setSung_94 : decode cX13_setSung 94 = .ok (.lastore, 1) := by decide +kernel
theorem dX13_setSung_95 : decode cX13_setSung 95 = .ok (.aload_n 0, 1) := by decide +kernel
theorem dX13_setSung_96 : decode cX13_setSung 96 = .ok (.getfield 101, 3) := by decide +kernel
theorem dX13_setSung_99 : decode cX13_setSung 99 = .ok (.bipush 7, 2) := by decide +kernel
theorem dX13_setSung_101 : decode cX13_setSung 101 = .ok (.iload 6, 2) := by decide +kernel
theorem dX13_setSung_103 : decode cX13_setSung 103 = .ok (.i2l, 1) := by decide +kernel
theorem dX13_setSung_104 : decode cX13_setSung 104 = .ok (.lastore, 1) := by decide +kernel
theorem dX13_setSung_105 : decode cX13_setSung 105 = .ok (.aload_n 0, 1) := by decide +kernel
theorem dX13_setSung_106 : decode cX13_setSung 106 = .ok (.getfield 101, 3) := by decide +kernel
theorem dX13_setSung_109 : decode cX13_setSung 109 = .ok (.bipush 8, 2) := by decide +kernel
theorem dX13_setSung_111 : decode cX13_setSung 111 = .ok (.aload_n 0, 1) := by decide +kernel
theorem dX13_setSung_112 : decode cX13_setSung 112 = .ok (.iconst 0, 1) := by decide +kernel
theorem dX13_setSung_113 : decode cX13_setSung 113 = .ok (.invokevirtual 412, 3) := by decide +kernel
theorem dX13_setSung_116 : decode cX13_setSung 116 = .ok (.i2l, 1) := by decide +kernel
theorem dX13_setSung_117 : decode cX13_setSung 117 = .ok (.lastore, 1) := by decide +kernel
theorem dX13_setSung_118 : decode cX13_setSung 118 = .ok (.aload_n 0, 1) := by decide +kernel
theorem dX13_setSung_119 : decode cX13_setSung 119 = .ok (.getfield 101, 3) := by decide +kernel
theorem dX13_setSung_122 : decode cX13_setSung 122 = .ok (.bipush 9, 2) := by decide +kernel
theorem dX13_setSung_124 : decode cX13_setSung 124 = .ok (.aload_n 0, 1) := by decide +kernel
theorem dX13_setSung_125 : decode cX13_setSung 125 = .ok (.iconst 3, 1) := by decide +kernel
theorem dX13_setSung_126 : decode cX13_setSung 126 = .ok (.invokevirtual 412, 3) := by decide +kernel
theorem dX13_setSung_129 : decode cX13_setSung 129 = .ok (.i2l, 1) := by decide +kernel
theorem dX13_setSung_130 : decode cX13_setSung 130 = .ok (.lastore, 1) := by decide +kernel
theorem dX13_setSung_131 : decode cX13_setSung 131 = .ok (.return_, 1) := by decide +kernel
theorem dX13_setSung_44 : decode cX13_setSung 44 = .ok (.if_icmp .ne 9, 3) := by decide +kernel
theorem dX13_setSung_53 : decode cX13_setSung 53 = .ok (.aload_n 0, 1) := by decide +kernel
theorem dX13_setSung_54 : decode cX13_setSung 54 = .ok (.getfield 13, 3) := by decide +kernel
theorem dX13_setSung_57 : decode cX13_setSung 57 = .ok (.bipush 58, 2) := by decide +kernel
theorem dX13_setSung_59 : decode cX13_setSung 59 = .ok (.iconst 2, 1) := by decide +kernel
theorem dX13_setSung_60 : decode cX13_setSung 60 = .ok (.iload_n 1, 1) := by decide +kernel
theorem dX13_setSung_61 : decode cX13_setSung 61 = .ok (.imul, 1) := by decide +kernel
theorem dX13_setSung_62 : decode cX13_setSung 62 = .ok (.iadd, 1) := by decide +kernel
theorem dX13_setSung_63 : decode cX13_setSung 63 = .ok (.iconst 1, 1) := by decide +kernel
theorem dX13_setSung_64 : decode cX13_setSung 64 = .ok (.iadd, 1) := by decide +kernel
theorem dX13_setSung_65 : decode cX13_setSung 65 = .ok (.iaload, 1) := by decide +kernel
theorem dX13_setSung_66 : decode cX13_setSung 66 = .ok (.i2l, 1) := by decide +kernel
theorem dX13_setSung_47 : decode cX13_setSung 47 = .ok (.ldc2_w 263, 3) := by decide +kernel
theorem dX13_setSung_50 : decode cX13_setSung 50 = .ok (.goto 17, 3) := by decide +kernel
theorem dX13_setSung_15 : decode cX13_setSung 15 = .ok (.if_icmp .ne 9, 3) := by decide +kernel
theorem dX13_setSung_24 : decode cX13_setSung 24 = .ok (.aload_n 0, 1) := by decide +kernel
theorem dX13_setSung_25 : decode cX13_setSung 25 = .ok (.getfield 13, 3) := by decide +kernel
theorem dX13_setSung_28 : decode cX13_setSung 28 = .ok (.bipush 58, 2) := by decide +kernel
theorem dX13_setSung_30 : decode cX13_setSung 30 = .ok (.iconst 2, 1) := by decide +kernel
theorem dX13_setSung_31 : decode cX13_setSung 31 = .ok (.iload_n 1, 1) := by decide +kernel
theorem dX13_setSung_32 : decode cX13_setSung 32 = .ok (.imul, 1) := by decide +kernel
theorem dX13_setSung_33 : decode cX13_setSung 33 = .ok (.iadd, 1) := by decide +kernel
theorem dX13_setSung_34 : decode cX13_setSung 34 = .ok (.iaload, 1) := by decide +kernel
theorem dX13_setSung_35 : decode cX13_setSung 35 = .ok (.i2l, 1) := by decide +kernel
theorem dX13_setSung_18 : decode cX13_setSung 18 = .ok (.ldc2_w 263, 3) := by decide +kernel
theorem dX13_setSung_21 : decode cX13_setSung 21 = .ok (.goto 15, 3) := by decide +kernel
set_option maxHeartbeats 4000000 in
set_option maxRecDepth 100000 in
theorem k_X13_setSung (l : Launch) (D : va_G) (cy : Nat → ClassId) (ld ad : Nat → Nat) (am : Nat) (hD : mz_D ad am) (Fa : Nat → Int32) (Ga : Nat → Int64) (Ra : Nat → Nat → Int32) (Sa : Nat → Nat → Int64) (p1 : Int32) (p2 : Int32) (p3 : Int32) (p4 : Int32) (p5 : Int32) (p6 : Int32) (hIF : mz_IF true Fa) (hIG : mz_IG Ga) (hIR : mz_IR [] true Ra) (hp_0 : (-1) ≤ p1.toInt) (hp_1 : p1.toInt ≤ 9) : Met l yX13_setSung (wl yX13_setSung cX13_setSung 7 none) ({ frames := 4, cells := 0, slots := 0, locals := 210 }) (mz_p D cy ld ad am Fa Ga Ra Sa [.ref am, .int p1, .int p2, .int p3, .int p4, .int p5, .int p6]) (mz_w D cy ad am (fun F G R S => mz_IF true F ∧ mz_IG G ∧ mz_IR [] true R ∧ (∀ k : Nat, k ∉ ([] : List Nat) → F k = Fa k) ∧ (∀ k : Nat, k ∉ ([] : List Nat) → R k = Ra k) ∧ (∀ k : Nat, k ∉ ([] : List Nat) → G k = Ga k))) 0 0 (mz_W ad am) := by
  refine mz_met (y := yX13_setSung) (cc := cX13_setSung) (maxL := 7) (ret := none) (av := [.ref am, .int p1, .int p2, .int p3, .int p4, .int p5, .int p6]) _ (by decide) (Nat.le_of_ble_eq_true rfl) ?_
  intro p e s m args below meth c hx hb hr hml hts htl hown hlocks hK H locs hM hS ls hl
  have hown : s.vm.findClass RX13 = some m.cls := hown
  have hl : lv_has ls 7 [(0, .ref am), (1, .int p1), (2, .int p2), (3, .int p3), (4, .int p4), (5, .int p5), (6, .int p6)] := hl
  have hr_p1 := tk_rng p1
  have hr_p2 := tk_rng p2
  have hr_p3 := tk_rng p3
  have hr_p4 := tk_rng p4
  have hr_p5 := tk_rng p5
  have hr_p6 := tk_rng p6
  refine lv_aload_n hx hb dX13_setSung_0 rfl (lv_at hl 0 rfl) ?_
  refine mz_getR hx hb htl hown hK hM 35 (Nat.le_of_ble_eq_true rfl) (Nat.le_of_ble_eq_true rfl) (htl _ mw_223) (fun _ h9 => h9) dX13_setSung_1 ?_
  refine lv_iconst (v := 1) hx hb dX13_setSung_4 (by decide) ?_
  refine lv_iload_n hx hb dX13_setSung_5 rfl (lv_at hl 2 rfl) ?_
  obtain ⟨w1, e_w1, h_w1⟩ : ∃ z : Int64, p2.toInt64 = z ∧ z.toInt = p2.toInt := ⟨_, rfl, fl_w _⟩
  refine lv_i2l (v := w1) hx hb dX13_setSung_6 e_w1 ?_
  have hk_1 : (1 : Int32).toInt = 1 := by decide
  refine mz_last (x := w1) hx hb hK hD hM hS 35 (Nat.le_of_ble_eq_true rfl) rfl (nn := 13) rfl (I := 1) (by decide) (by decide) (by decide) dX13_setSung_7 (fun H locs S hM hS _ _ => ?_)
  refine lv_aload_n hx hb dX13_setSung_8 rfl (lv_at hl 0 rfl) ?_
  refine mz_getR hx hb htl hown hK hM 35 (Nat.le_of_ble_eq_true rfl) (Nat.le_of_ble_eq_true rfl) (htl _ mw_223) (fun _ h9 => h9) dX13_setSung_9 ?_
  refine lv_iconst (v := 2) hx hb dX13_setSung_12 (by decide) ?_
  refine lv_iload_n hx hb dX13_setSung_13 rfl (lv_at hl 1 rfl) ?_
  refine lv_iconst (v := (-1)) hx hb dX13_setSung_14 (by decide) ?_
  have hj10 : ∀ (v9 : Int64), ∀ ls : Array Slot, lv_has ls 7 [(0, .ref am), (1, .int p1), (3, .int p3), (4, .int p4), (5, .int p5), (6, .int p6)] → W p l e ({ frames := 4, cells := 0, slots := 0, locals := 210 }) s m args below meth c H locs 0 0 (MQ below (mz_w D cy ad am (fun F G R S => mz_IF true F ∧ mz_IG G ∧ mz_IR [] true R ∧ (∀ k : Nat, k ∉ ([] : List Nat) → F k = Fa k) ∧ (∀ k : Nat, k ∉ ([] : List Nat) → R k = Ra k) ∧ (∀ k : Nat, k ∉ ([] : List Nat) → G k = Ga k))) args s 0 0 (mz_W ad am)) (F0 m 36 ls [.long v9, .int 2, .ref (ad 35)]) := by
    intro v9  ls hl
    have hk_2 : (2 : Int32).toInt = 2 := by decide
    refine mz_last (x := v9) hx hb hK hD hM hS 35 (Nat.le_of_ble_eq_true rfl) rfl (nn := 13) rfl (I := 2) (by decide) (by decide) (by decide) dX13_setSung_36 (fun H locs S hM hS _ _ => ?_)
    refine lv_aload_n hx hb dX13_setSung_37 rfl (lv_at hl 0 rfl) ?_
    refine mz_getR hx hb htl hown hK hM 35 (Nat.le_of_ble_eq_true rfl) (Nat.le_of_ble_eq_true rfl) (htl _ mw_223) (fun _ h9 => h9) dX13_setSung_38 ?_
    refine lv_iconst (v := 3) hx hb dX13_setSung_41 (by decide) ?_
    refine lv_iload_n hx hb dX13_setSung_42 rfl (lv_at hl 1 rfl) ?_
    refine lv_iconst (v := (-1)) hx hb dX13_setSung_43 (by decide) ?_
    have hj20 : ∀ (v19 : Int64), ∀ ls : Array Slot, lv_has ls 7 [(0, .ref am), (3, .int p3), (4, .int p4), (5, .int p5), (6, .int p6)] → W p l e ({ frames := 4, cells := 0, slots := 0, locals := 210 }) s m args below meth c H locs 0 0 (MQ below (mz_w D cy ad am (fun F G R S => mz_IF true F ∧ mz_IG G ∧ mz_IR [] true R ∧ (∀ k : Nat, k ∉ ([] : List Nat) → F k = Fa k) ∧ (∀ k : Nat, k ∉ ([] : List Nat) → R k = Ra k) ∧ (∀ k : Nat, k ∉ ([] : List Nat) → G k = Ga k))) args s 0 0 (mz_W ad am)) (F0 m 67 ls [.long v19, .int 3, .ref (ad 35)]) := by
      intro v19  ls hl
      have hk_3 : (3 : Int32).toInt = 3 := by decide
      refine mz_last (x := v19) hx hb hK hD hM hS 35 (Nat.le_of_ble_eq_true rfl) rfl (nn := 13) rfl (I := 3) (by decide) (by decide) (by decide) dX13_setSung_67 (fun H locs S hM hS _ _ => ?_)
      refine lv_aload_n hx hb dX13_setSung_68 rfl (lv_at hl 0 rfl) ?_
      refine mz_getR hx hb htl hown hK hM 35 (Nat.le_of_ble_eq_true rfl) (Nat.le_of_ble_eq_true rfl) (htl _ mw_223) (fun _ h9 => h9) dX13_setSung_69 ?_
      refine lv_iconst (v := 4) hx hb dX13_setSung_72 (by decide) ?_
      refine lv_iload_n hx hb dX13_setSung_73 rfl (lv_at hl 1 rfl) ?_
      obtain ⟨w22, e_w22, h_w22⟩ : ∃ z : Int64, p3.toInt64 = z ∧ z.toInt = p3.toInt := ⟨_, rfl, fl_w _⟩
      refine lv_i2l (v := w22) hx hb dX13_setSung_74 e_w22 ?_
      have hk_4 : (4 : Int32).toInt = 4 := by decide
      refine mz_last (x := w22) hx hb hK hD hM hS 35 (Nat.le_of_ble_eq_true rfl) rfl (nn := 13) rfl (I := 4) (by decide) (by decide) (by decide) dX13_setSung_75 (fun H locs S hM hS _ _ => ?_)
      refine lv_aload_n hx hb dX13_setSung_76 rfl (lv_at hl 0 rfl) ?_
      refine mz_getR hx hb htl hown hK hM 35 (Nat.le_of_ble_eq_true rfl) (Nat.le_of_ble_eq_true rfl) (htl _ mw_223) (fun _ h9 => h9) dX13_setSung_77 ?_
      refine lv_iconst (v := 5) hx hb dX13_setSung_80 (by decide) ?_
      refine lv_iload hx hb dX13_setSung_81 (lv_at hl 2 rfl) ?_
      obtain ⟨w24, e_w24, h_w24⟩ : ∃ z : Int64, p4.toInt64 = z ∧ z.toInt = p4.toInt := ⟨_, rfl, fl_w _⟩
      refine lv_i2l (v := w24) hx hb dX13_setSung_83 e_w24 ?_
      have hk_5 : (5 : Int32).toInt = 5 := by decide
      refine mz_last (x := w24) hx hb hK hD hM hS 35 (Nat.le_of_ble_eq_true rfl) rfl (nn := 13) rfl (I := 5) (by decide) (by decide) (by decide) dX13_setSung_84 (fun H locs S hM hS _ _ => ?_)
      refine lv_aload_n hx hb dX13_setSung_85 rfl (lv_at hl 0 rfl) ?_
      refine mz_getR hx hb htl hown hK hM 35 (Nat.le_of_ble_eq_true rfl) (Nat.le_of_ble_eq_true rfl) (htl _ mw_223) (fun _ h9 => h9) dX13_setSung_86 ?_
      refine lv_bipush (v := 6) hx hb dX13_setSung_89 (by decide) ?_
      refine lv_iload hx hb dX13_setSung_91 (lv_at hl 3 rfl) ?_
      obtain ⟨w26, e_w26, h_w26⟩ : ∃ z : Int64, p5.toInt64 = z ∧ z.toInt = p5.toInt := ⟨_, rfl, fl_w _⟩
      refine lv_i2l (v := w26) hx hb dX13_setSung_93 e_w26 ?_
      have hk_6 : (6 : Int32).toInt = 6 := by decide
      refine mz_last (x := w26) hx hb hK hD hM hS 35 (Nat.le_of_ble_eq_true rfl) rfl (nn := 13) rfl (I := 6) (by decide) (by decide) (by decide) dX13_setSung_94 (fun H locs S hM hS _ _ => ?_)
      refine lv_aload_n hx hb dX13_setSung_95 rfl (lv_at hl 0 rfl) ?_
      refine mz_getR hx hb htl hown hK hM 35 (Nat.le_of_ble_eq_true rfl) (Nat.le_of_ble_eq_true rfl) (htl _ mw_223) (fun _ h9 => h9) dX13_setSung_96 ?_
      refine lv_bipush (v := 7) hx hb dX13_setSung_99 (by decide) ?_
      refine lv_iload hx hb dX13_setSung_101 (lv_at hl 4 rfl) ?_
      obtain ⟨w28, e_w28, h_w28⟩ : ∃ z : Int64, p6.toInt64 = z ∧ z.toInt = p6.toInt := ⟨_, rfl, fl_w _⟩
      refine lv_i2l (v := w28) hx hb dX13_setSung_103 e_w28 ?_
      have hk_7 : (7 : Int32).toInt = 7 := by decide
      refine mz_last (x := w28) hx hb hK hD hM hS 35 (Nat.le_of_ble_eq_true rfl) rfl (nn := 13) rfl (I := 7) (by decide) (by decide) (by decide) dX13_setSung_104 (fun H locs S hM hS _ _ => ?_)
      refine lv_aload_n hx hb dX13_setSung_105 rfl (lv_at hl 0 rfl) ?_
      refine mz_getR hx hb htl hown hK hM 35 (Nat.le_of_ble_eq_true rfl) (Nat.le_of_ble_eq_true rfl) (htl _ mw_223) (fun _ h9 => h9) dX13_setSung_106 ?_
      refine lv_bipush (v := 8) hx hb dX13_setSung_109 (by decide) ?_
      refine lv_aload_n hx hb dX13_setSung_111 rfl (lv_at hl 0 rfl) ?_
      refine lv_iconst (v := 0) hx hb dX13_setSung_112 (by decide) ?_
      obtain ⟨v31, hf30⟩ : ∃ z : Int32, Ra 3 6 = z := ⟨_, rfl⟩
      have hq_v31 := tk_rng v31
      have hk_0 : (0 : Int32).toInt = 0 := by decide
      refine mz_Vj (As := [.int 0]) (rest := [.int 8, .ref (ad 35)]) ⟨hx, hb, hml, hown, hts⟩ hK hM hS (k_X13_term_0 l D cy ld ad am hD _ _ _ _ v31 hf30) ⟨callB_of 1 hts (wl_in mw_1042) rfl rfl rfl (htl _ mw_5) (htl _ mw_1039) hd_yX13_term ⟨(Nat.le_of_ble_eq_true rfl), (Nat.le_of_ble_eq_true rfl)⟩, htl _ mw_1040, htl _ mw_1041⟩ rfl hl.1 rfl (Nat.le_of_ble_eq_true rfl) dX13_setSung_113 ⟨(Nat.le_of_ble_eq_true rfl), (Nat.le_of_ble_eq_true rfl)⟩ (fun v32 H locs hpo hM hS => ?_)
      have hpo33 := hpo
      have hq_v32 := tk_rng v32
      obtain ⟨w35, e_w35, h_w35⟩ : ∃ z : Int64, v32.toInt64 = z ∧ z.toInt = v32.toInt := ⟨_, rfl, fl_w _⟩
      refine lv_i2l (v := w35) hx hb dX13_setSung_116 e_w35 ?_
      have hk_8 : (8 : Int32).toInt = 8 := by decide
      refine mz_last (x := w35) hx hb hK hD hM hS 35 (Nat.le_of_ble_eq_true rfl) rfl (nn := 13) rfl (I := 8) (by decide) (by decide) (by decide) dX13_setSung_117 (fun H locs S hM hS _ _ => ?_)
      refine lv_aload_n hx hb dX13_setSung_118 rfl (lv_at hl 0 rfl) ?_
      refine mz_getR hx hb htl hown hK hM 35 (Nat.le_of_ble_eq_true rfl) (Nat.le_of_ble_eq_true rfl) (htl _ mw_223) (fun _ h9 => h9) dX13_setSung_119 ?_
      refine lv_bipush (v := 9) hx hb dX13_setSung_122 (by decide) ?_
      refine lv_aload_n hx hb dX13_setSung_124 rfl (lv_at hl 0 rfl) ?_
      refine lv_iconst (v := 3) hx hb dX13_setSung_125 (by decide) ?_
      obtain ⟨v38, hf37⟩ : ∃ z : Int32, Ra 3 9 = z := ⟨_, rfl⟩
      have hq_v38 := tk_rng v38
      have hk_3 : (3 : Int32).toInt = 3 := by decide
      refine mz_Vj (As := [.int 3]) (rest := [.int 9, .ref (ad 35)]) ⟨hx, hb, hml, hown, hts⟩ hK hM hS (k_X13_term_3 l D cy ld ad am hD _ _ _ _ v38 hf37) ⟨callB_of 1 hts (wl_in mw_1042) rfl rfl rfl (htl _ mw_5) (htl _ mw_1039) hd_yX13_term ⟨(Nat.le_of_ble_eq_true rfl), (Nat.le_of_ble_eq_true rfl)⟩, htl _ mw_1040, htl _ mw_1041⟩ rfl hl.1 rfl (Nat.le_of_ble_eq_true rfl) dX13_setSung_126 ⟨(Nat.le_of_ble_eq_true rfl), (Nat.le_of_ble_eq_true rfl)⟩ (fun v39 H locs hpo hM hS => ?_)
      have hpo40 := hpo
      have hq_v39 := tk_rng v39
      obtain ⟨w42, e_w42, h_w42⟩ : ∃ z : Int64, v39.toInt64 = z ∧ z.toInt = v39.toInt := ⟨_, rfl, fl_w _⟩
      refine lv_i2l (v := w42) hx hb dX13_setSung_129 e_w42 ?_
      have hk_9 : (9 : Int32).toInt = 9 := by decide
      refine mz_last (x := w42) hx hb hK hD hM hS 35 (Nat.le_of_ble_eq_true rfl) rfl (nn := 13) rfl (I := 9) (by decide) (by decide) (by decide) dX13_setSung_130 (fun H locs S hM hS _ _ => ?_)
      exact mz_vret hx hb hr hlocks ⟨hIF, hIG, hIR, (fun _ _ => rfl), (fun _ _ => rfl), (fun _ _ => rfl)⟩ hM hS dX13_setSung_131
    refine lv_icmp_ne (tgt := 53) hx hb dX13_setSung_44 (by decide) (fun c9 => ?_) (fun c9 => ?_)
    · have hc12 : ¬ (p1.toInt = (-1)) := fun h9 => c9 ((fi_eq rfl (show ((-1) : Int32).toInt = (-1) by decide)).mpr h9)
      refine lv_aload_n hx hb dX13_setSung_53 rfl (lv_at hl 0 rfl) ?_
      refine mz_getR hx hb htl hown hK hM 3 (Nat.le_of_ble_eq_true rfl) (Nat.le_of_ble_eq_true rfl) (htl _ mw_188) (fun _ h9 => h9) dX13_setSung_54 ?_
      refine lv_bipush (v := 58) hx hb dX13_setSung_57 (by decide) ?_
      refine lv_iconst (v := 2) hx hb dX13_setSung_59 (by decide) ?_
      refine lv_iload_n hx hb dX13_setSung_60 rfl (lv_at hl 1 rfl) ?_
      refine lv_imul hx hb dX13_setSung_61 ?_
      refine tk_mul (show (2 : Int32).toInt = 2 by decide) rfl (by omega) (by omega) (fun v44 h_v44 => ?_)
      refine lv_iadd hx hb dX13_setSung_62 ?_
      refine tk_add (show (58 : Int32).toInt = 58 by decide) rfl (by omega) (by omega) (fun v45 h_v45 => ?_)
      refine lv_iconst (v := 1) hx hb dX13_setSung_63 (by decide) ?_
      refine lv_iadd hx hb dX13_setSung_64 ?_
      refine tk_add rfl (show (1 : Int32).toInt = 1 by decide) (by omega) (by omega) (fun v46 h_v46 => ?_)
      refine mz_iald hx hb hK hM 3 (Nat.le_of_ble_eq_true rfl) rfl (nn := 5560) rfl rfl (by omega) (by omega) dX13_setSung_65 (fun v47 e_v47 => ?_)
      have hq_v47 := tk_rng v47
      obtain ⟨w48, e_w48, h_w48⟩ : ∃ z : Int64, v47.toInt64 = z ∧ z.toInt = v47.toInt := ⟨_, rfl, fl_w _⟩
      refine lv_i2l (v := w48) hx hb dX13_setSung_66 e_w48 ?_
      exact hj20 w48 _ (lv_sub hl [0, 2, 3, 4, 5] rfl)
    · have hc12 : p1.toInt = (-1) := (fi_eq rfl (show ((-1) : Int32).toInt = (-1) by decide)).mp c9
      refine lv_ldc2 hx hb hown (htl _ mw_691) dX13_setSung_47 ?_
      refine lv_goto (tgt := 67) hx hb dX13_setSung_50 (by decide) ?_
      have hk_m1 : ((-1) : Int64).toInt = (-1) := by decide
      exact hj20 (-1) _ (lv_sub hl [0, 2, 3, 4, 5] rfl)
  refine lv_icmp_ne (tgt := 24) hx hb dX13_setSung_15 (by decide) (fun c9 => ?_) (fun c9 => ?_)
  · have hc3 : ¬ (p1.toInt = (-1)) := fun h9 => c9 ((fi_eq rfl (show ((-1) : Int32).toInt = (-1) by decide)).mpr h9)
    refine lv_aload_n hx hb dX13_setSung_24 rfl (lv_at hl 0 rfl) ?_
    refine mz_getR hx hb htl hown hK hM 3 (Nat.le_of_ble_eq_true rfl) (Nat.le_of_ble_eq_true rfl) (htl _ mw_188) (fun _ h9 => h9) dX13_setSung_25 ?_
    refine lv_bipush (v := 58) hx hb dX13_setSung_28 (by decide) ?_
    refine lv_iconst (v := 2) hx hb dX13_setSung_30 (by decide) ?_
    refine lv_iload_n hx hb dX13_setSung_31 rfl (lv_at hl 1 rfl) ?_
    refine lv_imul hx hb dX13_setSung_32 ?_
    refine tk_mul (show (2 : Int32).toInt = 2 by decide) rfl (by omega) (by omega) (fun v49 h_v49 => ?_)
    refine lv_iadd hx hb dX13_setSung_33 ?_
    refine tk_add (show (58 : Int32).toInt = 58 by decide) rfl (by omega) (by omega) (fun v50 h_v50 => ?_)
    refine mz_iald hx hb hK hM 3 (Nat.le_of_ble_eq_true rfl) rfl (nn := 5560) rfl rfl (by omega) (by omega) dX13_setSung_34 (fun v51 e_v51 => ?_)
    have hq_v51 := tk_rng v51
    obtain ⟨w52, e_w52, h_w52⟩ : ∃ z : Int64, v51.toInt64 = z ∧ z.toInt = v51.toInt := ⟨_, rfl, fl_w _⟩
    refine lv_i2l (v := w52) hx hb dX13_setSung_35 e_w52 ?_
    exact hj10 w52 _ (lv_sub hl [0, 1, 3, 4, 5, 6] rfl)
  · have hc3 : p1.toInt = (-1) := (fi_eq rfl (show ((-1) : Int32).toInt = (-1) by decide)).mp c9
    refine lv_ldc2 hx hb hown (htl _ mw_691) dX13_setSung_18 ?_
    refine lv_goto (tgt := 36) hx hb dX13_setSung_21 (by decide) ?_
    have hk_m1 : ((-1) : Int64).toInt = (-1) := by decide
    exact hj10 (-1) _ (lv_sub hl [0, 1, 3, 4, 5, 6] rfl)
