theorem dX13_hears_0 : decode cX13_hears 0 = .ok (.aload_n 0, 1) := by decide +kernel
theorem dX13_hears_1 : decode cX13_hears 1 = .ok (.iconst 0, 1) := by decide +kernel
theorem dX13_hears_2 : decode cX13_hears 2 = .ok (.putfield 170, 3) := by decide +kernel
theorem dX13_hears_5 : decode cX13_hears 5 = .ok (.iload_n 1, 1) := by decide +kernel
theorem dX13_hears_6 : decode cX13_hears 6 = .ok (.iload_n 2, 1) := by decide +kernel
theorem dX13_hears_7 : decode cX13_hears 7 = .ok (.if_icmp .eq 13, 3) := by decide +kernel
theorem dX13_hears_20 : decode cX13_hears 20 = .ok (.aload_n 0, 1) := by decide +kernel
theorem dX13_hears_21 : decode cX13_hears 21 = .ok (.iconst (-1), 1) := by decide +kernel
theorem dX13_hears_22 : decode cX13_hears 22 = .ok (.invokevirtual 183, 3) := by decide +kernel
theorem dX13_hears_25 : decode cX13_hears 25 = .ok (.ireturn, 1) := by decide +kernel
theorem dX13_hears_10 : decode cX13_hears 10 = .ok (.iload_n 3, 1) := by decide +kernel
theorem dX13_hears_11 : decode cX13_hears 11 = .ok (.i2l, 1) := by decide +kernel
theorem dX13_hears_12 : decode cX13_hears 12 = .ok (.lconst 0, 1) := by decide +kernel
theorem dX13_hears_13 : decode cX13_hears 13 = .ok (.lconst 1, 1) := by decide +kernel
theorem dX13_hears_14 : decode cX13_hears 14 = .ok (.invokestatic 190, 3) := by decide +kernel
theorem dX13_hears_17 : decode cX13_hears 17 = .ok (.ifCond .ne 9, 3) := by decide +kernel
theorem dX13_hears_26 : decode cX13_hears 26 = .ok (.aload_n 0, 1) := by decide +kernel
theorem dX13_hears_27 : decode cX13_hears 27 = .ok (.iload_n 1, 1) := by decide +kernel
theorem dX13_hears_28 : decode cX13_hears 28 = .ok (.invokevirtual 201, 3) := by decide +kernel
theorem dX13_hears_31 : decode cX13_hears 31 = .ok (.ifCond .eq 11, 3) := by decide +kernel
theorem dX13_hears_42 : decode cX13_hears 42 = .ok (.aload_n 0, 1) := by decide +kernel
theorem dX13_hears_43 : decode cX13_hears 43 = .ok (.bipush (-2), 2) := by decide +kernel
theorem dX13_hears_45 : decode cX13_hears 45 = .ok (.invokevirtual 183, 3) := by decide +kernel
theorem dX13_hears_48 : decode cX13_hears 48 = .ok (.ireturn, 1) := by decide +kernel
theorem dX13_hears_34 : decode cX13_hears 34 = .ok (.aload_n 0, 1) := by decide +kernel
theorem dX13_hears_35 : decode cX13_hears 35 = .ok (.iload_n 2, 1) := by decide +kernel
theorem dX13_hears_36 : decode cX13_hears 36 = .ok (.invokevirtual 201, 3) := by decide +kernel
theorem dX13_hears_39 : decode cX13_hears 39 = .ok (.ifCond .ne 10, 3) := by decide +kernel
theorem dX13_hears_49 : decode cX13_hears 49 = .ok (.aload_n 0, 1) := by decide +kernel
theorem dX13_hears_50 : decode cX13_hears 50 = .ok (.getfield 13, 3) := by decide +kernel
theorem dX13_hears_53 : decode cX13_hears 53 = .ok (.bipush 108, 2) := by decide +kernel
theorem dX13_hears_55 : decode cX13_hears 55 = .ok (.iload_n 1, 1) := by decide +kernel
theorem dX13_hears_56 : decode cX13_hears 56 = .ok (.iadd, 1) := by decide +kernel
theorem dX13_hears_57 : decode cX13_hears 57 = .ok (.iaload, 1) := by decide +kernel
theorem dX13_hears_58 : decode cX13_hears 58 = .ok (.iload_n 2, 1) := by decide +kernel
theorem dX13_hears_59 : decode cX13_hears 59 = .ok (.ishr, 1) := by decide +kernel
theorem dX13_hears_60 : decode cX13_hears 60 = .ok (.iconst 1, 1) := by decide +kernel
theorem dX13_hears_61 : decode cX13_hears 61 = .ok (.iand, 1) := by decide +kernel
theorem dX13_hears_62 : decode cX13_hears 62 = .ok (.istore 4, 2) := by decide +kernel
theorem dX13_hears_64 : decode cX13_hears 64 = .ok (.aload_n 0, 1) := by decide +kernel
theorem dX13_hears_65 : decode cX13_hears 65 = .ok (.getfield 13, 3) := by decide +kernel
theorem dX13_hears_68 : decode cX13_hears 68 = .ok (.bipush 108, 2) := by decide +kernel
theorem dX13_hears_70 : decode cX13_hears 70 = .ok (.iload_n 1, 1) := by decide +kernel
theorem dX13_hears_71 : decode cX13_hears 71 = .ok (.iadd, 1) := by decide +kernel
theorem dX13_hears_72 : decode cX13_hears 72 = .ok (.dup2, 1) := by decide +kernel
theorem dX13_hears_73 : decode cX13_hears 73 = .ok (.iaload, 1) := by decide +kernel
theorem dX13_hears_74 : decode cX13_hears 74 = .ok (.iload_n 3, 1) := by decide +kernel
theorem dX13_hears_75 : decode cX13_hears 75 = .ok (.iload 4, 2) := by decide +kernel
theorem dX13_hears_99 : decode cX13_hears 99 = .ok (.iadd, 1) := by decide +kernel
theorem dX13_hears_100 : decode cX13_hears 100 = .ok (.iastore, 1) := by decide +kernel
theorem dX13_hears_101 : decode cX13_hears 101 = .ok (.aload_n 0, 1) := by decide +kernel
theorem dX13_hears_102 : decode cX13_hears 102 = .ok (.iconst 0, 1) := by decide +kernel
theorem dX13_hears_103 : decode cX13_hears 103 = .ok (.putfield 173, 3) := by decide +kernel
theorem dX13_hears_106 : decode cX13_hears 106 = .ok (.iload 4, 2) := by decide +kernel
theorem dX13_hears_108 : decode cX13_hears 108 = .ok (.ireturn, 1) := by decide +kernel
theorem dX13_hears_77 : decode cX13_hears 77 = .ok (.if_icmp .ne 7, 3) := by decide +kernel
theorem dX13_hears_84 : decode cX13_hears 84 = .ok (.iload_n 3, 1) := by decide +kernel
theorem dX13_hears_85 : decode cX13_hears 85 = .ok (.iconst 1, 1) := by decide +kernel
theorem dX13_hears_86 : decode cX13_hears 86 = .ok (.if_icmp .ne 9, 3) := by decide +kernel
theorem dX13_hears_95 : decode cX13_hears 95 = .ok (.iconst 1, 1) := by decide +kernel
theorem dX13_hears_96 : decode cX13_hears 96 = .ok (.iload_n 2, 1) := by decide +kernel
theorem dX13_hears_97 : decode cX13_hears 97 = .ok (.ishl, 1) := by decide +kernel
theorem dX13_hears_98 : decode cX13_hears 98 = .ok (.ineg, 1) := by decide +kernel
theorem dX13_hears_89 : decode cX13_hears 89 = .ok (.iconst 1, 1) := by decide +kernel
theorem dX13_hears_90 : decode cX13_hears 90 = .ok (.iload_n 2, 1) := by decide +kernel
theorem dX13_hears_91 : decode cX13_hears 91 = .ok (.ishl, 1) := by decide +kernel
theorem dX13_hears_92 : decode cX13_hears 92 = .ok (.goto 7, 3) := by decide +kernel
theorem dX13_hears_80 : decode cX13_hears 80 = .ok (.iconst 0, 1) := by decide +kernel
theorem dX13_hears_81 : decode cX13_hears 81 = .ok (.goto 18, 3) := by decide +kernel
set_option maxHeartbeats 4000000 in
set_option maxRecDepth 100000 in
theorem k_X13_hears (l : Launch) (D : va_G) (cy : Nat → ClassId) (ld ad : Nat → Nat) (am : Nat) (hD : mz_D ad am) (Fa : Nat → Int32) (Ga : Nat → Int64) (Ra : Nat → Nat → Int32) (Sa : Nat → Nat → Int64) (p1 : Int32) (p2 : Int32) (p3 : Int32) (hIF : mz_IF true Fa) (hIG : mz_IG Ga) (hIR : mz_IR [] true Ra) : Met l yX13_hears (wl yX13_hears cX13_hears 5 (some .int)) ({ frames := 5, cells := 0, slots := 0, locals := 280 }) (mz_p D cy ld ad am Fa Ga Ra Sa [.ref am, .int p1, .int p2, .int p3]) (mz_i D cy ad am (fun r F G R S => mz_IF true F ∧ mz_IG G ∧ mz_IR [] true R ∧ (∀ k : Nat, k ∉ ([0, 1] : List Nat) → F k = Fa k) ∧ (∀ k : Nat, k ∉ ([2, 3] : List Nat) → R k = Ra k) ∧ (∀ k : Nat, k ∉ ([] : List Nat) → G k = Ga k) ∧ (-2) ≤ r.toInt ∧ r.toInt ≤ 1)) 0 0 (mz_W ad am) := by
  refine mz_met (y := yX13_hears) (cc := cX13_hears) (maxL := 5) (ret := (some .int)) (av := [.ref am, .int p1, .int p2, .int p3]) _ (by decide) (Nat.le_of_ble_eq_true rfl) ?_
  intro p e s m args below meth c hx hb hr hml hts htl hown hlocks hK H locs hM hS ls hl
  have hown : s.vm.findClass RX13 = some m.cls := hown
  have hl : lv_has ls 5 [(0, .ref am), (1, .int p1), (2, .int p2), (3, .int p3)] := hl
  have hr_p1 := tk_rng p1
  have hr_p2 := tk_rng p2
  have hr_p3 := tk_rng p3
  refine lv_aload_n hx hb dX13_hears_0 rfl (lv_at hl 0 rfl) ?_
  refine lv_iconst (v := 0) hx hb dX13_hears_1 (by decide) ?_
  have hk_0 : (0 : Int32).toInt = 0 := by decide
  refine mz_putI (ty := .int) (x := 0) hx hb htl hown hK hD hM hS 0 (Nat.le_of_ble_eq_true rfl) rfl (htl _ mw_286) (fun _ h9 => h9) rfl (tyX13_ok 0 (by decide)) rfl rfl dX13_hears_2 (fun H locs F hM hS hf9 hj9 => ?_)
  have hIF := hIF.put hf9 hj9 (tk_rng _).1 (tk_rng _).2 (by decide)
  have hFF := mz_frp (K := [0, 1]) (Fa := Fa) hj9 (fun _ _ => rfl) (by decide)
  have hf2 := hf9
  refine lv_iload_n hx hb dX13_hears_5 rfl (lv_at hl 1 rfl) ?_
  refine lv_iload_n hx hb dX13_hears_6 rfl (lv_at hl 2 rfl) ?_
  refine lv_icmp_eq (tgt := 20) hx hb dX13_hears_7 (by decide) (fun c9 => ?_) (fun c9 => ?_)
  · have hc3 : p1.toInt = p2.toInt := (fi_eq rfl rfl).mp c9
    refine lv_aload_n hx hb dX13_hears_20 rfl (lv_at hl 0 rfl) ?_
    refine lv_iconst (v := (-1)) hx hb dX13_hears_21 (by decide) ?_
    have hk_m1 : ((-1) : Int32).toInt = (-1) := by decide
    refine mz_Vi (As := [.int (-1)]) (rest := []) ⟨hx, hb, hml, hown, hts⟩ hK hM hS (k_X13_tell l D cy ld ad am hD _ _ _ _ (-1) hIF hIG hIR (by omega) (by omega)) ⟨callB_of 1 hts (wl_in mw_296) rfl rfl rfl (htl _ mw_5) (htl _ mw_293) hd_yX13_tell ⟨(Nat.le_of_ble_eq_true rfl), (Nat.le_of_ble_eq_true rfl)⟩, htl _ mw_294, htl _ mw_295⟩ rfl hl.1 rfl (Nat.le_of_ble_eq_true rfl) dX13_hears_22 ⟨(Nat.le_of_ble_eq_true rfl), (Nat.le_of_ble_eq_true rfl)⟩ (fun v4 H locs F G R S hpo hM hS => ?_)
    obtain ⟨hIF, hIG, hIR, hfr9, hrr9, hgr9, hpo5⟩ := hpo
    have hq_v4 := tk_rng v4
    have hFF := mz_fr (K := [0, 1]) (Fa := Fa) hfr9 hFF (by decide)
    have hRR := mz_fr (K := [2, 3]) (Fa := Ra) hrr9 (fun _ _ => rfl) (by decide)
    have hGG := mz_fr (K := []) (Fa := Ga) hgr9 (fun _ _ => rfl) (by decide)
    have hf2 := (hfr9 0 (by decide)).trans hf2
    exact mz_iret (v := v4) hx hb hr rfl hlocks ⟨hIF, hIG, hIR, hFF, hRR, hGG, (by omega), (by omega)⟩ hM hS dX13_hears_25
  · have hc3 : ¬ (p1.toInt = p2.toInt) := fun h9 => c9 ((fi_eq rfl rfl).mpr h9)
    refine lv_iload_n hx hb dX13_hears_10 rfl (lv_at hl 3 rfl) ?_
    obtain ⟨w10, e_w10, h_w10⟩ : ∃ z : Int64, p3.toInt64 = z ∧ z.toInt = p3.toInt := ⟨_, rfl, fl_w _⟩
    refine lv_i2l (v := w10) hx hb dX13_hears_11 e_w10 ?_
    refine lv_lconst (v := 0) hx hb dX13_hears_12 (by decide) ?_
    refine lv_lconst (v := 1) hx hb dX13_hears_13 (by decide) ?_
    have hk_0 : (0 : Int64).toInt = 0 := by decide
    have hk_1 : (1 : Int64).toInt = 1 := by decide
    refine mz_Sj (As := [.long w10, .long 0, .long 1]) (rest := []) ⟨hx, hb, hml, hown, hts⟩ hK hM hS (k_X13_in l D cy ld ad am hD _ _ _ _ w10 0 1) ⟨callB_of 3 hts (wl_in mw_292) rfl rfl rfl (htl _ mw_5) (htl _ mw_290) hd_yX13_in ⟨(Nat.le_of_ble_eq_true rfl), (Nat.le_of_ble_eq_true rfl)⟩, htl _ mw_291⟩ rfl hl.1 rfl (Nat.le_of_ble_eq_true rfl) dX13_hears_14 ⟨(Nat.le_of_ble_eq_true rfl), (Nat.le_of_ble_eq_true rfl)⟩ (fun v11 H locs hpo hM hS => ?_)
    obtain ⟨hpo12, hpo13, hpo14, hpo15, hpo16, hpo17⟩ := hpo
    have hq_v11 := tk_rng v11
    refine lv_if_ne (tgt := 26) hx hb dX13_hears_17 (by decide) (fun c9 => ?_) (fun c9 => ?_)
    · have hc19 : ¬ (v11.toInt = 0) := fun h9 => c9 ((fi_eq rfl (show (0 : Int32).toInt = 0 by decide)).mpr h9)
      have hwk_20 : 0 ≤ w10.toInt ∧ w10.toInt ≤ 1 := by omega
      refine lv_aload_n hx hb dX13_hears_26 rfl (lv_at hl 0 rfl) ?_
      refine lv_iload_n hx hb dX13_hears_27 rfl (lv_at hl 1 rfl) ?_
      refine mz_Vj (As := [.int p1]) (rest := []) ⟨hx, hb, hml, hown, hts⟩ hK hM hS (k_X13_isSinger l D cy ld ad am hD _ _ _ _ p1 (hIF.weak) hIG hIR) ⟨callB_of 1 hts (wl_in mw_320) rfl rfl rfl (htl _ mw_5) (htl _ mw_317) hd_yX13_isSinger ⟨(Nat.le_of_ble_eq_true rfl), (Nat.le_of_ble_eq_true rfl)⟩, htl _ mw_318, htl _ mw_319⟩ rfl hl.1 rfl (Nat.le_of_ble_eq_true rfl) dX13_hears_28 ⟨(Nat.le_of_ble_eq_true rfl), (Nat.le_of_ble_eq_true rfl)⟩ (fun v21 H locs hpo hM hS => ?_)
      obtain ⟨hpo22, hpo23, hpo24, hpo25, hpo26⟩ := hpo
      have hq_v21 := tk_rng v21
      refine lv_if_eq (tgt := 42) hx hb dX13_hears_31 (by decide) (fun c9 => ?_) (fun c9 => ?_)
      · have hc28 : v21.toInt = 0 := (fi_eq rfl (show (0 : Int32).toInt = 0 by decide)).mp c9
        refine lv_aload_n hx hb dX13_hears_42 rfl (lv_at hl 0 rfl) ?_
        refine lv_bipush (v := (-2)) hx hb dX13_hears_43 (by decide) ?_
        have hk_m2 : ((-2) : Int32).toInt = (-2) := by decide
        refine mz_Vi (As := [.int (-2)]) (rest := []) ⟨hx, hb, hml, hown, hts⟩ hK hM hS (k_X13_tell l D cy ld ad am hD _ _ _ _ (-2) hIF hIG hIR (by omega) (by omega)) ⟨callB_of 1 hts (wl_in mw_296) rfl rfl rfl (htl _ mw_5) (htl _ mw_293) hd_yX13_tell ⟨(Nat.le_of_ble_eq_true rfl), (Nat.le_of_ble_eq_true rfl)⟩, htl _ mw_294, htl _ mw_295⟩ rfl hl.1 rfl (Nat.le_of_ble_eq_true rfl) dX13_hears_45 ⟨(Nat.le_of_ble_eq_true rfl), (Nat.le_of_ble_eq_true rfl)⟩ (fun v29 H locs F G R S hpo hM hS => ?_)
        obtain ⟨hIF, hIG, hIR, hfr9, hrr9, hgr9, hpo30⟩ := hpo
        have hq_v29 := tk_rng v29
        have hFF := mz_fr (K := [0, 1]) (Fa := Fa) hfr9 hFF (by decide)
        have hRR := mz_fr (K := [2, 3]) (Fa := Ra) hrr9 (fun _ _ => rfl) (by decide)
        have hGG := mz_fr (K := []) (Fa := Ga) hgr9 (fun _ _ => rfl) (by decide)
        have hf2 := (hfr9 0 (by decide)).trans hf2
        exact mz_iret (v := v29) hx hb hr rfl hlocks ⟨hIF, hIG, hIR, hFF, hRR, hGG, (by omega), (by omega)⟩ hM hS dX13_hears_48
      · have hc28 : ¬ (v21.toInt = 0) := fun h9 => c9 ((fi_eq rfl (show (0 : Int32).toInt = 0 by decide)).mpr h9)
        have hwk_32 : 0 ≤ p1.toInt ∧ p1.toInt ≤ 7 := by omega
        refine lv_aload_n hx hb dX13_hears_34 rfl (lv_at hl 0 rfl) ?_
        refine lv_iload_n hx hb dX13_hears_35 rfl (lv_at hl 2 rfl) ?_
        refine mz_Vj (As := [.int p2]) (rest := []) ⟨hx, hb, hml, hown, hts⟩ hK hM hS (k_X13_isSinger l D cy ld ad am hD _ _ _ _ p2 (hIF.weak) hIG hIR) ⟨callB_of 1 hts (wl_in mw_320) rfl rfl rfl (htl _ mw_5) (htl _ mw_317) hd_yX13_isSinger ⟨(Nat.le_of_ble_eq_true rfl), (Nat.le_of_ble_eq_true rfl)⟩, htl _ mw_318, htl _ mw_319⟩ rfl hl.1 rfl (Nat.le_of_ble_eq_true rfl) dX13_hears_36 ⟨(Nat.le_of_ble_eq_true rfl), (Nat.le_of_ble_eq_true rfl)⟩ (fun v33 H locs hpo hM hS => ?_)
        obtain ⟨hpo34, hpo35, hpo36, hpo37, hpo38⟩ := hpo
        have hq_v33 := tk_rng v33
        refine lv_if_ne (tgt := 49) hx hb dX13_hears_39 (by decide) (fun c9 => ?_) (fun c9 => ?_)
        · have hc40 : ¬ (v33.toInt = 0) := fun h9 => c9 ((fi_eq rfl (show (0 : Int32).toInt = 0 by decide)).mpr h9)
          have hwk_41 : 0 ≤ p2.toInt ∧ p2.toInt ≤ 7 := by omega
          refine lv_aload_n hx hb dX13_hears_49 rfl (lv_at hl 0 rfl) ?_
          refine mz_getR hx hb htl hown hK hM 3 (Nat.le_of_ble_eq_true rfl) (Nat.le_of_ble_eq_true rfl) (htl _ mw_188) (fun _ h9 => h9) dX13_hears_50 ?_
          refine lv_bipush (v := 108) hx hb dX13_hears_53 (by decide) ?_
          refine lv_iload_n hx hb dX13_hears_55 rfl (lv_at hl 1 rfl) ?_
          refine lv_iadd hx hb dX13_hears_56 ?_
          refine tk_add (show (108 : Int32).toInt = 108 by decide) rfl (by omega) (by omega) (fun v42 h_v42 => ?_)
          refine mz_iald hx hb hK hM 3 (Nat.le_of_ble_eq_true rfl) rfl (nn := 5560) rfl rfl (by omega) (by omega) dX13_hears_57 (fun v43 e_v43 => ?_)
          have hq_v43 := tk_rng v43
          refine lv_iload_n hx hb dX13_hears_58 rfl (lv_at hl 2 rfl) ?_
          refine lv_ishr hx hb dX13_hears_59 ?_
          refine tk_any (fun v44 => ?_)
          refine lv_iconst (v := 1) hx hb dX13_hears_60 (by decide) ?_
          refine lv_iand hx hb dX13_hears_61 ?_
          refine tk_say (P := fun z => 0 ≤ z.toInt ∧ z.toInt ≤ 1) (tk_and v44 1 (by decide) (by decide)) (fun v45 h_v45 => ?_)
          refine lv_istore (lv' := [(4, .int v45), (0, .ref am), (1, .int p1), (2, .int p2), (3, .int p3)]) hx hb dX13_hears_62 hl (by decide) rfl (fun ls hl => ?_)
          refine lv_aload_n hx hb dX13_hears_64 rfl (lv_at hl 1 rfl) ?_
          refine mz_getR hx hb htl hown hK hM 3 (Nat.le_of_ble_eq_true rfl) (Nat.le_of_ble_eq_true rfl) (htl _ mw_188) (fun _ h9 => h9) dX13_hears_65 ?_
          refine lv_bipush (v := 108) hx hb dX13_hears_68 (by decide) ?_
          refine lv_iload_n hx hb dX13_hears_70 rfl (lv_at hl 2 rfl) ?_
          refine lv_iadd hx hb dX13_hears_71 ?_
          refine tk_add (show (108 : Int32).toInt = 108 by decide) rfl (by omega) (by omega) (fun v46 h_v46 => ?_)
          refine lv_dup2_11 hx hb dX13_hears_72 rfl rfl ?_
          refine mz_iald hx hb hK hM 3 (Nat.le_of_ble_eq_true rfl) rfl (nn := 5560) rfl rfl (by omega) (by omega) dX13_hears_73 (fun v47 e_v47 => ?_)
          have hq_v47 := tk_rng v47
          refine lv_iload_n hx hb dX13_hears_74 rfl (lv_at hl 4 rfl) ?_
          refine lv_iload hx hb dX13_hears_75 (lv_at hl 0 rfl) ?_
          have hj55 : ∀ (v54 : Int32), ((-9999) ≤ v54.toInt) → (v54.toInt ≤ 1099) → ∀ ls : Array Slot, lv_has ls 5 [(4, .int v45), (0, .ref am)] → W p l e ({ frames := 5, cells := 0, slots := 0, locals := 280 }) s m args below meth c H locs 0 0 (MQ below (mz_i D cy ad am (fun r F G R S => mz_IF true F ∧ mz_IG G ∧ mz_IR [] true R ∧ (∀ k : Nat, k ∉ ([0, 1] : List Nat) → F k = Fa k) ∧ (∀ k : Nat, k ∉ ([2, 3] : List Nat) → R k = Ra k) ∧ (∀ k : Nat, k ∉ ([] : List Nat) → G k = Ga k) ∧ (-2) ≤ r.toInt ∧ r.toInt ≤ 1)) args s 0 0 (mz_W ad am)) (F0 m 99 ls [.int v54, .int v47, .int v46, .ref (ad 3)]) := by
            intro v54 hq0_j55 hq1_j55 ls hl
            refine lv_iadd hx hb dX13_hears_99 ?_
            obtain ⟨v56, hm_v56⟩ : ∃ z : Int32, v47 + v54 = z := ⟨_, rfl⟩
            refine fx_ti hm_v56 ?_
            refine mz_iast (x := v56) hx hb hK hD hM hS 3 (Nat.le_of_ble_eq_true rfl) rfl (nn := 5560) rfl rfl (by omega) (by omega) dX13_hears_100 (fun H locs R hM hS hw9 hj9 => ?_)
            have hIR := hIR.put hw9 hj9 (mz_r3 (hIR.at 3) (I := v46.toInt) rfl (by omega) (by omega) (fun h9 => by first | (cases h9; done) | omega) (by unfold mE; omega))
            have hRR := mz_frp (K := [2, 3]) (Fa := Ra) hj9 (fun _ _ => rfl) (by decide)
            refine lv_aload_n hx hb dX13_hears_101 rfl (lv_at hl 1 rfl) ?_
            refine lv_iconst (v := 0) hx hb dX13_hears_102 (by decide) ?_
            have hk_0 : (0 : Int32).toInt = 0 := by decide
            refine mz_putI (ty := .int) (x := 0) hx hb htl hown hK hD hM hS 1 (Nat.le_of_ble_eq_true rfl) rfl (htl _ mw_297) (fun _ h9 => h9) rfl (tyX13_ok 1 (by decide)) rfl rfl dX13_hears_103 (fun H locs F hM hS hf9 hj9 => ?_)
            have hIF := hIF.put hf9 hj9 (tk_rng _).1 (tk_rng _).2 (by decide)
            have hFF := mz_frp (K := [0, 1]) (Fa := Fa) hj9 hFF (by decide)
            have hf2 := (hj9 0 (by decide)).trans hf2
            have hf59 := hf9
            refine lv_iload hx hb dX13_hears_106 (lv_at hl 0 rfl) ?_
            exact mz_iret (v := v45) hx hb hr rfl hlocks ⟨hIF, hIG, hIR, hFF, hRR, (fun _ _ => rfl), (by omega), (by omega)⟩ hM hS dX13_hears_108
          refine lv_icmp_ne (tgt := 84) hx hb dX13_hears_77 (by decide) (fun c9 => ?_) (fun c9 => ?_)
          · have hc48 : ¬ (p3.toInt = v45.toInt) := fun h9 => c9 ((fi_eq rfl rfl).mpr h9)
            refine lv_iload_n hx hb dX13_hears_84 rfl (lv_at hl 4 rfl) ?_
            refine lv_iconst (v := 1) hx hb dX13_hears_85 (by decide) ?_
            refine lv_icmp_ne (tgt := 95) hx hb dX13_hears_86 (by decide) (fun c9 => ?_) (fun c9 => ?_)
            · have hc60 : ¬ (p3.toInt = 1) := fun h9 => c9 ((fi_eq rfl (show (1 : Int32).toInt = 1 by decide)).mpr h9)
              refine lv_iconst (v := 1) hx hb dX13_hears_95 (by decide) ?_
              refine lv_iload_n hx hb dX13_hears_96 rfl (lv_at hl 3 rfl) ?_
              refine lv_ishl hx hb dX13_hears_97 ?_
              refine tk_say (P := fun z => 1 ≤ z.toInt ∧ z.toInt ≤ 1024) (tk_shl1 p2 (by omega) (by omega)) (fun v61 h_v61 => ?_)
              refine lv_ineg hx hb dX13_hears_98 ?_
              refine tk_neg rfl (by omega) (by omega) (fun v62 h_v62 => ?_)
              exact hj55 v62 (by omega) (by omega) _ (lv_sub hl [0, 1] rfl)
            · have hc60 : p3.toInt = 1 := (fi_eq rfl (show (1 : Int32).toInt = 1 by decide)).mp c9
              refine lv_iconst (v := 1) hx hb dX13_hears_89 (by decide) ?_
              refine lv_iload_n hx hb dX13_hears_90 rfl (lv_at hl 3 rfl) ?_
              refine lv_ishl hx hb dX13_hears_91 ?_
              refine tk_say (P := fun z => 1 ≤ z.toInt ∧ z.toInt ≤ 1024) (tk_shl1 p2 (by omega) (by omega)) (fun v63 h_v63 => ?_)
              refine lv_goto (tgt := 99) hx hb dX13_hears_92 (by decide) ?_
              exact hj55 v63 (by omega) (by omega) _ (lv_sub hl [0, 1] rfl)
          · have hc48 : p3.toInt = v45.toInt := (fi_eq rfl rfl).mp c9
            refine lv_iconst (v := 0) hx hb dX13_hears_80 (by decide) ?_
            refine lv_goto (tgt := 99) hx hb dX13_hears_81 (by decide) ?_
            have hk_0 : (0 : Int32).toInt = 0 := by decide
            exact hj55 0 (by omega) (by omega) _ (lv_sub hl [0, 1] rfl)
        · have hc40 : v33.toInt = 0 := (fi_eq rfl (show (0 : Int32).toInt = 0 by decide)).mp c9
          refine lv_aload_n hx hb dX13_hears_42 rfl (lv_at hl 0 rfl) ?_
          refine lv_bipush (v := (-2)) hx hb dX13_hears_43 (by decide) ?_
          have hk_m2 : ((-2) : Int32).toInt = (-2) := by decide
          refine mz_Vi (As := [.int (-2)]) (rest := []) ⟨hx, hb, hml, hown, hts⟩ hK hM hS (k_X13_tell l D cy ld ad am hD _ _ _ _ (-2) hIF hIG hIR (by omega) (by omega)) ⟨callB_of 1 hts (wl_in mw_296) rfl rfl rfl (htl _ mw_5) (htl _ mw_293) hd_yX13_tell ⟨(Nat.le_of_ble_eq_true rfl), (Nat.le_of_ble_eq_true rfl)⟩, htl _ mw_294, htl _ mw_295⟩ rfl hl.1 rfl (Nat.le_of_ble_eq_true rfl) dX13_hears_45 ⟨(Nat.le_of_ble_eq_true rfl), (Nat.le_of_ble_eq_true rfl)⟩ (fun v64 H locs F G R S hpo hM hS => ?_)
          obtain ⟨hIF, hIG, hIR, hfr9, hrr9, hgr9, hpo65⟩ := hpo
          have hq_v64 := tk_rng v64
          have hFF := mz_fr (K := [0, 1]) (Fa := Fa) hfr9 hFF (by decide)
          have hRR := mz_fr (K := [2, 3]) (Fa := Ra) hrr9 (fun _ _ => rfl) (by decide)
          have hGG := mz_fr (K := []) (Fa := Ga) hgr9 (fun _ _ => rfl) (by decide)
          have hf2 := (hfr9 0 (by decide)).trans hf2
          exact mz_iret (v := v64) hx hb hr rfl hlocks ⟨hIF, hIG, hIR, hFF, hRR, hGG, (by omega), (by omega)⟩ hM hS dX13_hears_48
    · have hc19 : v11.toInt = 0 := (fi_eq rfl (show (0 : Int32).toInt = 0 by decide)).mp c9
      refine lv_aload_n hx hb dX13_hears_20 rfl (lv_at hl 0 rfl) ?_
      refine lv_iconst (v := (-1)) hx hb dX13_hears_21 (by decide) ?_
      have hk_m1 : ((-1) : Int32).toInt = (-1) := by decide
      refine mz_Vi (As := [.int (-1)]) (rest := []) ⟨hx, hb, hml, hown, hts⟩ hK hM hS (k_X13_tell l D cy ld ad am hD _ _ _ _ (-1) hIF hIG hIR (by omega) (by omega)) ⟨callB_of 1 hts (wl_in mw_296) rfl rfl rfl (htl _ mw_5) (htl _ mw_293) hd_yX13_tell ⟨(Nat.le_of_ble_eq_true rfl), (Nat.le_of_ble_eq_true rfl)⟩, htl _ mw_294, htl _ mw_295⟩ rfl hl.1 rfl (Nat.le_of_ble_eq_true rfl) dX13_hears_22 ⟨(Nat.le_of_ble_eq_true rfl), (Nat.le_of_ble_eq_true rfl)⟩ (fun v67 H locs F G R S hpo hM hS => ?_)
      obtain ⟨hIF, hIG, hIR, hfr9, hrr9, hgr9, hpo68⟩ := hpo
      have hq_v67 := tk_rng v67
      have hFF := mz_fr (K := [0, 1]) (Fa := Fa) hfr9 hFF (by decide)
      have hRR := mz_fr (K := [2, 3]) (Fa := Ra) hrr9 (fun _ _ => rfl) (by decide)
      have hGG := mz_fr (K := []) (Fa := Ga) hgr9 (fun _ _ => rfl) (by decide)
      have hf2 := (hfr9 0 (by decide)).trans hf2
      exact mz_iret (v := v67) hx hb hr rfl hlocks ⟨hIF, hIG, hIR, hFF, hRR, hGG, (by omega), (by omega)⟩ hM hS dX13_hears_25
