section
theorem dX13_terms_0 : decode cX13_terms 0 = .ok (.aload_n 0, 1) := by decide +kernel
theorem dX13_terms_1 : decode cX13_terms 1 = .ok (.iconst 0, 1) := by decide +kernel
theorem dX13_terms_2 : decode cX13_terms 2 = .ok (.putfield 170, 3) := by decide +kernel
theorem dX13_terms_5 : decode cX13_terms 5 = .ok (.iload_n 1, 1) := by decide +kernel
theorem dX13_terms_6 : decode cX13_terms 6 = .ok (.ifCond .eq 8, 3) := by decide +kernel
theorem dX13_terms_14 : decode cX13_terms 14 = .ok (.iload_n 2, 1) := by decide +kernel
theorem dX13_terms_15 : decode cX13_terms 15 = .ok (.i2l, 1) := by decide +kernel
theorem dX13_terms_16 : decode cX13_terms 16 = .ok (.lconst 0, 1) := by decide +kernel
theorem dX13_terms_17 : decode cX13_terms 17 = .ok (.ldc2_w 197, 3) := by decide +kernel
theorem dX13_terms_20 : decode cX13_terms 20 = .ok (.invokestatic 190, 3) := by decide +kernel
theorem dX13_terms_23 : decode cX13_terms 23 = .ok (.goto 42, 3) := by decide +kernel
theorem dX13_terms_65 : decode cX13_terms 65 = .ok (.istore_n 3, 1) := by decide +kernel
theorem dX13_terms_66 : decode cX13_terms 66 = .ok (.iload_n 3, 1) := by decide +kernel
theorem dX13_terms_67 : decode cX13_terms 67 = .ok (.ifCond .ne 9, 3) := by decide +kernel
theorem dX13_terms_76 : decode cX13_terms 76 = .ok (.aload_n 0, 1) := by decide +kernel
theorem dX13_terms_77 : decode cX13_terms 77 = .ok (.iconst 0, 1) := by decide +kernel
theorem dX13_terms_78 : decode cX13_terms 78 = .ok (.putfield 176, 3) := by decide +kernel
theorem dX13_terms_81 : decode cX13_terms 81 = .ok (.aload_n 0, 1) := by decide +kernel
theorem dX13_terms_82 : decode cX13_terms 82 = .ok (.bipush 6, 2) := by decide +kernel
theorem dX13_terms_84 : decode cX13_terms 84 = .ok (.iload_n 1, 1) := by decide +kernel
theorem dX13_terms_85 : decode cX13_terms 85 = .ok (.iadd, 1) := by decide +kernel
theorem dX13_terms_86 : decode cX13_terms 86 = .ok (.iload_n 2, 1) := by decide +kernel
theorem dX13_terms_87 : decode cX13_terms 87 = .ok (.invokevirtual 221, 3) := by decide +kernel
theorem dX13_terms_90 : decode cX13_terms 90 = .ok (.ireturn, 1) := by decide +kernel
theorem dX13_terms_70 : decode cX13_terms 70 = .ok (.aload_n 0, 1) := by decide +kernel
theorem dX13_terms_71 : decode cX13_terms 71 = .ok (.iconst (-1), 1) := by decide +kernel
theorem dX13_terms_72 : decode cX13_terms 72 = .ok (.invokevirtual 183, 3) := by decide +kernel
theorem dX13_terms_75 : decode cX13_terms 75 = .ok (.ireturn, 1) := by decide +kernel
theorem dX13_terms_9 : decode cX13_terms 9 = .ok (.iload_n 1, 1) := by decide +kernel
theorem dX13_terms_10 : decode cX13_terms 10 = .ok (.iconst 2, 1) := by decide +kernel
theorem dX13_terms_11 : decode cX13_terms 11 = .ok (.if_icmp .ne 15, 3) := by decide +kernel
theorem dX13_terms_26 : decode cX13_terms 26 = .ok (.iload_n 1, 1) := by decide +kernel
theorem dX13_terms_27 : decode cX13_terms 27 = .ok (.iconst 1, 1) := by decide +kernel
theorem dX13_terms_28 : decode cX13_terms 28 = .ok (.if_icmp .ne 15, 3) := by decide +kernel
theorem dX13_terms_43 : decode cX13_terms 43 = .ok (.iload_n 1, 1) := by decide +kernel
theorem dX13_terms_44 : decode cX13_terms 44 = .ok (.iconst 3, 1) := by decide +kernel
theorem dX13_terms_45 : decode cX13_terms 45 = .ok (.if_icmp .ne 19, 3) := by decide +kernel
theorem dX13_terms_64 : decode cX13_terms 64 = .ok (.iconst 0, 1) := by decide +kernel
theorem dX13_terms_48 : decode cX13_terms 48 = .ok (.iload_n 2, 1) := by decide +kernel
theorem dX13_terms_49 : decode cX13_terms 49 = .ok (.i2l, 1) := by decide +kernel
theorem dX13_terms_50 : decode cX13_terms 50 = .ok (.lconst 0, 1) := by decide +kernel
theorem dX13_terms_51 : decode cX13_terms 51 = .ok (.ldc2_w 199, 3) := by decide +kernel
theorem dX13_terms_54 : decode cX13_terms 54 = .ok (.invokestatic 190, 3) := by decide +kernel
theorem dX13_terms_57 : decode cX13_terms 57 = .ok (.ifCond .eq 7, 3) := by decide +kernel
theorem dX13_terms_60 : decode cX13_terms 60 = .ok (.iconst 1, 1) := by decide +kernel
theorem dX13_terms_61 : decode cX13_terms 61 = .ok (.goto 4, 3) := by decide +kernel
theorem dX13_terms_31 : decode cX13_terms 31 = .ok (.iload_n 2, 1) := by decide +kernel
theorem dX13_terms_32 : decode cX13_terms 32 = .ok (.i2l, 1) := by decide +kernel
theorem dX13_terms_33 : decode cX13_terms 33 = .ok (.lconst 1, 1) := by decide +kernel
theorem dX13_terms_34 : decode cX13_terms 34 = .ok (.ldc2_w 197, 3) := by decide +kernel
theorem dX13_terms_37 : decode cX13_terms 37 = .ok (.invokestatic 190, 3) := by decide +kernel
theorem dX13_terms_40 : decode cX13_terms 40 = .ok (.goto 25, 3) := by decide +kernel
set_option maxHeartbeats 4000000 in
set_option maxRecDepth 100000 in
theorem k_X13_terms (l : Launch) (D : va_G) (cy : Nat → ClassId) (ld ad : Nat → Nat) (am : Nat) (hD : mz_D ad am) (Fa : Nat → Int32) (Ga : Nat → Int64) (Ra : Nat → Nat → Int32) (Sa : Nat → Nat → Int64) (p1 : Int32) (p2 : Int32) (hIF : mz_IF true Fa) (hIG : mz_IG Ga) (hIR : mz_IR [] true Ra) : Met l yX13_terms (wl yX13_terms cX13_terms 4 (some .int)) ({ frames := 4, cells := 0, slots := 0, locals := 210 }) (mz_p D cy ld ad am Fa Ga Ra Sa [.ref am, .int p1, .int p2]) (mz_i D cy ad am (fun r F G R S => mz_IF true F ∧ mz_IG G ∧ mz_IR [] true R ∧ (∀ k : Nat, k ∉ ([0, 1, 8] : List Nat) → F k = Fa k) ∧ (∀ k : Nat, k ∉ ([2, 3] : List Nat) → R k = Ra k) ∧ (∀ k : Nat, k ∉ ([] : List Nat) → G k = Ga k) ∧ rK3 (Ra 3) (R 3))) 0 0 (mz_W ad am) := by
  refine mz_met (y := yX13_terms) (cc := cX13_terms) (maxL := 4) (ret := (some .int)) (av := [.ref am, .int p1, .int p2]) _ (by decide) (Nat.le_of_ble_eq_true rfl) ?_
  intro p e s m args below meth c hx hb hr hml hts htl hown hlocks hK H locs hM hS ls hl
  have hown : s.vm.findClass RX13 = some m.cls := hown
  have hl : lv_has ls 4 [(0, .ref am), (1, .int p1), (2, .int p2)] := hl
  have hr_p1 := tk_rng p1
  have hr_p2 := tk_rng p2
  refine lv_aload_n hx hb dX13_terms_0 rfl (lv_at hl 0 rfl) ?_
  refine lv_iconst (v := 0) hx hb dX13_terms_1 (by decide) ?_
  have hk_0 : (0 : Int32).toInt = 0 := by decide
  refine mz_putI (ty := .int) (x := 0) hx hb htl hown hK hD hM hS 0 (Nat.le_of_ble_eq_true rfl) rfl (htl _ mw_286) (fun _ h9 => h9) rfl (tyX13_ok 0 (by decide)) rfl rfl dX13_terms_2 (fun H locs F hM hS hf9 hj9 => ?_)
  have hIF := hIF.put hf9 hj9 (tk_rng _).1 (tk_rng _).2 (by decide)
  have hFF := mz_frp (K := [0, 1, 8]) (Fa := Fa) hj9 (fun _ _ => rfl) (by decide)
  have hf2 := hf9
  refine lv_iload_n hx hb dX13_terms_5 rfl (lv_at hl 1 rfl) ?_
  refine lv_if_eq (tgt := 14) hx hb dX13_terms_6 (by decide) (fun c9 => ?_) (fun c9 => ?_)
  · have hc3 : p1.toInt = 0 := (fi_eq rfl (show (0 : Int32).toInt = 0 by decide)).mp c9
    refine lv_iload_n hx hb dX13_terms_14 rfl (lv_at hl 2 rfl) ?_
    obtain ⟨w4, e_w4, h_w4⟩ : ∃ z : Int64, p2.toInt64 = z ∧ z.toInt = p2.toInt := ⟨_, rfl, fl_w _⟩
    refine lv_i2l (v := w4) hx hb dX13_terms_15 e_w4 ?_
    refine lv_lconst (v := 0) hx hb dX13_terms_16 (by decide) ?_
    refine lv_ldc2 hx hb hown (htl _ mw_287) dX13_terms_17 ?_
    have hk_0 : (0 : Int64).toInt = 0 := by decide
    have hk_999 : (999 : Int64).toInt = 999 := by decide
    refine mz_Sj (As := [.long w4, .long 0, .long 999]) (rest := []) ⟨hx, hb, hml, hown, hts⟩ hK hM hS (k_X13_in l D cy ld ad am hD _ _ _ _ w4 0 999) ⟨callB_of 3 hts (wl_in mw_292) rfl rfl rfl (htl _ mw_5) (htl _ mw_290) hd_yX13_in ⟨(Nat.le_of_ble_eq_true rfl), (Nat.le_of_ble_eq_true rfl)⟩, htl _ mw_291⟩ rfl hl.1 rfl (Nat.le_of_ble_eq_true rfl) dX13_terms_20 ⟨(Nat.le_of_ble_eq_true rfl), (Nat.le_of_ble_eq_true rfl)⟩ (fun v5 H locs hpo hM hS => ?_)
    obtain ⟨hpo6, hpo10, hpo11, hpo12, hpo13, hpo14⟩ := hpo
    have hq_v5 := tk_rng v5
    refine lv_goto (tgt := 65) hx hb dX13_terms_23 (by decide) ?_
    refine lv_istore_n (lv' := [(3, .int v5), (0, .ref am), (1, .int p1), (2, .int p2)]) hx hb dX13_terms_65 rfl hl (by decide) rfl (fun ls hl => ?_)
    refine lv_iload_n hx hb dX13_terms_66 rfl (lv_at hl 0 rfl) ?_
    refine lv_if_ne (tgt := 76) hx hb dX13_terms_67 (by decide) (fun c9 => ?_) (fun c9 => ?_)
    · have hc16 : ¬ (v5.toInt = 0) := fun h9 => c9 ((fi_eq rfl (show (0 : Int32).toInt = 0 by decide)).mpr h9)
      have hwk_17 : 0 ≤ w4.toInt ∧ w4.toInt ≤ 999 := by omega
      refine lv_aload_n hx hb dX13_terms_76 rfl (lv_at hl 1 rfl) ?_
      refine lv_iconst (v := 0) hx hb dX13_terms_77 (by decide) ?_
      have hk_0 : (0 : Int32).toInt = 0 := by decide
      have hk_0 : (0 : Int32).toInt = 0 := by decide
      refine mz_putI (ty := .int) (x := 0) hx hb htl hown hK hD hM hS 8 (Nat.le_of_ble_eq_true rfl) rfl (htl _ mw_289) (fun _ h9 => h9) rfl (tyX13_ok 8 (by decide)) rfl rfl dX13_terms_78 (fun H locs F hM hS hf9 hj9 => ?_)
      have hIF := hIF.put hf9 hj9 (show 0 ≤ (0 : Int32).toInt by omega) (show (0 : Int32).toInt ≤ 16 by omega) (by decide)
      have hFF := mz_frp (K := [0, 1, 8]) (Fa := Fa) hj9 hFF (by decide)
      have hf2 := (hj9 0 (by decide)).trans hf2
      have hf19 := hf9
      refine lv_aload_n hx hb dX13_terms_81 rfl (lv_at hl 1 rfl) ?_
      refine lv_bipush (v := 6) hx hb dX13_terms_82 (by decide) ?_
      refine lv_iload_n hx hb dX13_terms_84 rfl (lv_at hl 2 rfl) ?_
      refine lv_iadd hx hb dX13_terms_85 ?_
      refine tk_add (show (6 : Int32).toInt = 6 by decide) rfl (by omega) (by omega) (fun v20 h_v20 => ?_)
      refine lv_iload_n hx hb dX13_terms_86 rfl (lv_at hl 3 rfl) ?_
      refine mz_Vi (As := [.int v20, .int p2]) (rest := []) ⟨hx, hb, hml, hown, hts⟩ hK hM hS (k_X13_change l D cy ld ad am hD _ _ _ _ v20 p2 hIF hIG hIR (by omega) (by omega) (by omega)) ⟨callB_of 2 hts (wl_in mw_399) rfl rfl rfl (htl _ mw_5) (htl _ mw_396) hd_yX13_change ⟨(Nat.le_of_ble_eq_true rfl), (Nat.le_of_ble_eq_true rfl)⟩, htl _ mw_397, htl _ mw_398⟩ rfl hl.1 rfl (Nat.le_of_ble_eq_true rfl) dX13_terms_87 ⟨(Nat.le_of_ble_eq_true rfl), (Nat.le_of_ble_eq_true rfl)⟩ (fun v21 H locs F G R S hpo hM hS => ?_)
      obtain ⟨hIF, hIG, hIR, hfr9, hrr9, hgr9, hrel9⟩ := hpo
      have hq_v21 := tk_rng v21
      have hFF := mz_fr (K := [0, 1, 8]) (Fa := Fa) hfr9 hFF (by decide)
      have hRR := mz_fr (K := [2, 3]) (Fa := Ra) hrr9 (fun _ _ => rfl) (by decide)
      have hGG := mz_fr (K := []) (Fa := Ga) hgr9 (fun _ _ => rfl) (by decide)
      have hrel := (rK3.refl rfl).trans hrel9
      have hf2 := (hfr9 0 (by decide)).trans hf2
      have hf19 := (hfr9 8 (by decide)).trans hf19
      exact mz_iret (v := v21) hx hb hr rfl hlocks ⟨hIF, hIG, hIR, hFF, hRR, hGG, hrel⟩ hM hS dX13_terms_90
    · have hc16 : v5.toInt = 0 := (fi_eq rfl (show (0 : Int32).toInt = 0 by decide)).mp c9
      refine lv_aload_n hx hb dX13_terms_70 rfl (lv_at hl 1 rfl) ?_
      refine lv_iconst (v := (-1)) hx hb dX13_terms_71 (by decide) ?_
      have hk_m1 : ((-1) : Int32).toInt = (-1) := by decide
      refine mz_Vi (As := [.int (-1)]) (rest := []) ⟨hx, hb, hml, hown, hts⟩ hK hM hS (k_X13_tell l D cy ld ad am hD _ _ _ _ (-1) hIF hIG hIR (by omega) (by omega)) ⟨callB_of 1 hts (wl_in mw_296) rfl rfl rfl (htl _ mw_5) (htl _ mw_293) hd_yX13_tell ⟨(Nat.le_of_ble_eq_true rfl), (Nat.le_of_ble_eq_true rfl)⟩, htl _ mw_294, htl _ mw_295⟩ rfl hl.1 rfl (Nat.le_of_ble_eq_true rfl) dX13_terms_72 ⟨(Nat.le_of_ble_eq_true rfl), (Nat.le_of_ble_eq_true rfl)⟩ (fun v23 H locs F G R S hpo hM hS => ?_)
      obtain ⟨hIF, hIG, hIR, hfr9, hrr9, hgr9, hpo24⟩ := hpo
      have hq_v23 := tk_rng v23
      have hFF := mz_fr (K := [0, 1, 8]) (Fa := Fa) hfr9 hFF (by decide)
      have hRR := mz_fr (K := [2, 3]) (Fa := Ra) hrr9 (fun _ _ => rfl) (by decide)
      have hGG := mz_fr (K := []) (Fa := Ga) hgr9 (fun _ _ => rfl) (by decide)
      have hrel : rK3 (Ra 3) (R 3) := (rK3.refl rfl).trans (rK3.refl (hrr9 3 (by decide)))
      have hf2 := (hfr9 0 (by decide)).trans hf2
      exact mz_iret (v := v23) hx hb hr rfl hlocks ⟨hIF, hIG, hIR, hFF, hRR, hGG, hrel⟩ hM hS dX13_terms_75
  · have hc3 : ¬ (p1.toInt = 0) := fun h9 => c9 ((fi_eq rfl (show (0 : Int32).toInt = 0 by decide)).mpr h9)
    refine lv_iload_n hx hb dX13_terms_9 rfl (lv_at hl 1 rfl) ?_
    refine lv_iconst (v := 2) hx hb dX13_terms_10 (by decide) ?_
    refine lv_icmp_ne (tgt := 26) hx hb dX13_terms_11 (by decide) (fun c9 => ?_) (fun c9 => ?_)
    · have hc26 : ¬ (p1.toInt = 2) := fun h9 => c9 ((fi_eq rfl (show (2 : Int32).toInt = 2 by decide)).mpr h9)
      refine lv_iload_n hx hb dX13_terms_26 rfl (lv_at hl 1 rfl) ?_
      refine lv_iconst (v := 1) hx hb dX13_terms_27 (by decide) ?_
      refine lv_icmp_ne (tgt := 43) hx hb dX13_terms_28 (by decide) (fun c9 => ?_) (fun c9 => ?_)
      · have hc27 : ¬ (p1.toInt = 1) := fun h9 => c9 ((fi_eq rfl (show (1 : Int32).toInt = 1 by decide)).mpr h9)
        refine lv_iload_n hx hb dX13_terms_43 rfl (lv_at hl 1 rfl) ?_
        refine lv_iconst (v := 3) hx hb dX13_terms_44 (by decide) ?_
        refine lv_icmp_ne (tgt := 64) hx hb dX13_terms_45 (by decide) (fun c9 => ?_) (fun c9 => ?_)
        · have hc28 : ¬ (p1.toInt = 3) := fun h9 => c9 ((fi_eq rfl (show (3 : Int32).toInt = 3 by decide)).mpr h9)
          refine lv_iconst (v := 0) hx hb dX13_terms_64 (by decide) ?_
          refine lv_istore_n (lv' := [(3, .int 0), (0, .ref am), (1, .int p1), (2, .int p2)]) hx hb dX13_terms_65 rfl hl (by decide) rfl (fun ls hl => ?_)
          refine lv_iload_n hx hb dX13_terms_66 rfl (lv_at hl 0 rfl) ?_
          refine lv_if_ne (tgt := 76) hx hb dX13_terms_67 (by decide) (fun c9 => absurd (by decide) c9) (fun _ => ?_)
          refine lv_aload_n hx hb dX13_terms_70 rfl (lv_at hl 1 rfl) ?_
          refine lv_iconst (v := (-1)) hx hb dX13_terms_71 (by decide) ?_
          have hk_m1 : ((-1) : Int32).toInt = (-1) := by decide
          refine mz_Vi (As := [.int (-1)]) (rest := []) ⟨hx, hb, hml, hown, hts⟩ hK hM hS (k_X13_tell l D cy ld ad am hD _ _ _ _ (-1) hIF hIG hIR (by omega) (by omega)) ⟨callB_of 1 hts (wl_in mw_296) rfl rfl rfl (htl _ mw_5) (htl _ mw_293) hd_yX13_tell ⟨(Nat.le_of_ble_eq_true rfl), (Nat.le_of_ble_eq_true rfl)⟩, htl _ mw_294, htl _ mw_295⟩ rfl hl.1 rfl (Nat.le_of_ble_eq_true rfl) dX13_terms_72 ⟨(Nat.le_of_ble_eq_true rfl), (Nat.le_of_ble_eq_true rfl)⟩ (fun v29 H locs F G R S hpo hM hS => ?_)
          obtain ⟨hIF, hIG, hIR, hfr9, hrr9, hgr9, hpo30⟩ := hpo
          have hq_v29 := tk_rng v29
          have hFF := mz_fr (K := [0, 1, 8]) (Fa := Fa) hfr9 hFF (by decide)
          have hRR := mz_fr (K := [2, 3]) (Fa := Ra) hrr9 (fun _ _ => rfl) (by decide)
          have hGG := mz_fr (K := []) (Fa := Ga) hgr9 (fun _ _ => rfl) (by decide)
          have hrel : rK3 (Ra 3) (R 3) := (rK3.refl rfl).trans (rK3.refl (hrr9 3 (by decide)))
          have hf2 := (hfr9 0 (by decide)).trans hf2
          exact mz_iret (v := v29) hx hb hr rfl hlocks ⟨hIF, hIG, hIR, hFF, hRR, hGG, hrel⟩ hM hS dX13_terms_75
        · have hc28 : p1.toInt = 3 := (fi_eq rfl (show (3 : Int32).toInt = 3 by decide)).mp c9
          refine lv_iload_n hx hb dX13_terms_48 rfl (lv_at hl 2 rfl) ?_
          obtain ⟨w32, e_w32, h_w32⟩ : ∃ z : Int64, p2.toInt64 = z ∧ z.toInt = p2.toInt := ⟨_, rfl, fl_w _⟩
          refine lv_i2l (v := w32) hx hb dX13_terms_49 e_w32 ?_
          refine lv_lconst (v := 0) hx hb dX13_terms_50 (by decide) ?_
          refine lv_ldc2 hx hb hown (htl _ mw_288) dX13_terms_51 ?_
          have hk_0 : (0 : Int64).toInt = 0 := by decide
          have hk_9 : (9 : Int64).toInt = 9 := by decide
          refine mz_Sj (As := [.long w32, .long 0, .long 9]) (rest := []) ⟨hx, hb, hml, hown, hts⟩ hK hM hS (k_X13_in l D cy ld ad am hD _ _ _ _ w32 0 9) ⟨callB_of 3 hts (wl_in mw_292) rfl rfl rfl (htl _ mw_5) (htl _ mw_290) hd_yX13_in ⟨(Nat.le_of_ble_eq_true rfl), (Nat.le_of_ble_eq_true rfl)⟩, htl _ mw_291⟩ rfl hl.1 rfl (Nat.le_of_ble_eq_true rfl) dX13_terms_54 ⟨(Nat.le_of_ble_eq_true rfl), (Nat.le_of_ble_eq_true rfl)⟩ (fun v33 H locs hpo hM hS => ?_)
          obtain ⟨hpo34, hpo35, hpo36, hpo37, hpo38, hpo39⟩ := hpo
          have hq_v33 := tk_rng v33
          refine lv_if_eq (tgt := 64) hx hb dX13_terms_57 (by decide) (fun c9 => ?_) (fun c9 => ?_)
          · have hc41 : v33.toInt = 0 := (fi_eq rfl (show (0 : Int32).toInt = 0 by decide)).mp c9
            refine lv_iconst (v := 0) hx hb dX13_terms_64 (by decide) ?_
            refine lv_istore_n (lv' := [(3, .int 0), (0, .ref am), (1, .int p1), (2, .int p2)]) hx hb dX13_terms_65 rfl hl (by decide) rfl (fun ls hl => ?_)
            refine lv_iload_n hx hb dX13_terms_66 rfl (lv_at hl 0 rfl) ?_
            refine lv_if_ne (tgt := 76) hx hb dX13_terms_67 (by decide) (fun c9 => absurd (by decide) c9) (fun _ => ?_)
            refine lv_aload_n hx hb dX13_terms_70 rfl (lv_at hl 1 rfl) ?_
            refine lv_iconst (v := (-1)) hx hb dX13_terms_71 (by decide) ?_
            have hk_m1 : ((-1) : Int32).toInt = (-1) := by decide
            refine mz_Vi (As := [.int (-1)]) (rest := []) ⟨hx, hb, hml, hown, hts⟩ hK hM hS (k_X13_tell l D cy ld ad am hD _ _ _ _ (-1) hIF hIG hIR (by omega) (by omega)) ⟨callB_of 1 hts (wl_in mw_296) rfl rfl rfl (htl _ mw_5) (htl _ mw_293) hd_yX13_tell ⟨(Nat.le_of_ble_eq_true rfl), (Nat.le_of_ble_eq_true rfl)⟩, htl _ mw_294, htl _ mw_295⟩ rfl hl.1 rfl (Nat.le_of_ble_eq_true rfl) dX13_terms_72 ⟨(Nat.le_of_ble_eq_true rfl), (Nat.le_of_ble_eq_true rfl)⟩ (fun v42 H locs F G R S hpo hM hS => ?_)
            obtain ⟨hIF, hIG, hIR, hfr9, hrr9, hgr9, hpo43⟩ := hpo
            have hq_v42 := tk_rng v42
            have hFF := mz_fr (K := [0, 1, 8]) (Fa := Fa) hfr9 hFF (by decide)
            have hRR := mz_fr (K := [2, 3]) (Fa := Ra) hrr9 (fun _ _ => rfl) (by decide)
            have hGG := mz_fr (K := []) (Fa := Ga) hgr9 (fun _ _ => rfl) (by decide)
            have hrel : rK3 (Ra 3) (R 3) := (rK3.refl rfl).trans (rK3.refl (hrr9 3 (by decide)))
            have hf2 := (hfr9 0 (by decide)).trans hf2
            exact mz_iret (v := v42) hx hb hr rfl hlocks ⟨hIF, hIG, hIR, hFF, hRR, hGG, hrel⟩ hM hS dX13_terms_75
          · have hc41 : ¬ (v33.toInt = 0) := fun h9 => c9 ((fi_eq rfl (show (0 : Int32).toInt = 0 by decide)).mpr h9)
            have hwk_45 : 0 ≤ w32.toInt ∧ w32.toInt ≤ 9 := by omega
            refine lv_iconst (v := 1) hx hb dX13_terms_60 (by decide) ?_
            refine lv_goto (tgt := 65) hx hb dX13_terms_61 (by decide) ?_
            refine lv_istore_n (lv' := [(3, .int 1), (0, .ref am), (1, .int p1), (2, .int p2)]) hx hb dX13_terms_65 rfl hl (by decide) rfl (fun ls hl => ?_)
            refine lv_iload_n hx hb dX13_terms_66 rfl (lv_at hl 0 rfl) ?_
            refine lv_if_ne (tgt := 76) hx hb dX13_terms_67 (by decide) (fun _ => ?_) (fun c9 => absurd c9 (by decide))
            refine lv_aload_n hx hb dX13_terms_76 rfl (lv_at hl 1 rfl) ?_
            refine lv_iconst (v := 0) hx hb dX13_terms_77 (by decide) ?_
            have hk_0 : (0 : Int32).toInt = 0 := by decide
            have hk_0 : (0 : Int32).toInt = 0 := by decide
            refine mz_putI (ty := .int) (x := 0) hx hb htl hown hK hD hM hS 8 (Nat.le_of_ble_eq_true rfl) rfl (htl _ mw_289) (fun _ h9 => h9) rfl (tyX13_ok 8 (by decide)) rfl rfl dX13_terms_78 (fun H locs F hM hS hf9 hj9 => ?_)
            have hIF := hIF.put hf9 hj9 (show 0 ≤ (0 : Int32).toInt by omega) (show (0 : Int32).toInt ≤ 16 by omega) (by decide)
            have hFF := mz_frp (K := [0, 1, 8]) (Fa := Fa) hj9 hFF (by decide)
            have hf2 := (hj9 0 (by decide)).trans hf2
            have hf47 := hf9
            refine lv_aload_n hx hb dX13_terms_81 rfl (lv_at hl 1 rfl) ?_
            refine lv_bipush (v := 6) hx hb dX13_terms_82 (by decide) ?_
            refine lv_iload_n hx hb dX13_terms_84 rfl (lv_at hl 2 rfl) ?_
            refine lv_iadd hx hb dX13_terms_85 ?_
            refine tk_add (show (6 : Int32).toInt = 6 by decide) rfl (by omega) (by omega) (fun v48 h_v48 => ?_)
            refine lv_iload_n hx hb dX13_terms_86 rfl (lv_at hl 3 rfl) ?_
            refine mz_Vi (As := [.int v48, .int p2]) (rest := []) ⟨hx, hb, hml, hown, hts⟩ hK hM hS (k_X13_change l D cy ld ad am hD _ _ _ _ v48 p2 hIF hIG hIR (by omega) (by omega) (by omega)) ⟨callB_of 2 hts (wl_in mw_399) rfl rfl rfl (htl _ mw_5) (htl _ mw_396) hd_yX13_change ⟨(Nat.le_of_ble_eq_true rfl), (Nat.le_of_ble_eq_true rfl)⟩, htl _ mw_397, htl _ mw_398⟩ rfl hl.1 rfl (Nat.le_of_ble_eq_true rfl) dX13_terms_87 ⟨(Nat.le_of_ble_eq_true rfl), (Nat.le_of_ble_eq_true rfl)⟩ (fun v49 H locs F G R S hpo hM hS => ?_)
            obtain ⟨hIF, hIG, hIR, hfr9, hrr9, hgr9, hrel9⟩ := hpo
            have hq_v49 := tk_rng v49
            have hFF := mz_fr (K := [0, 1, 8]) (Fa := Fa) hfr9 hFF (by decide)
            have hRR := mz_fr (K := [2, 3]) (Fa := Ra) hrr9 (fun _ _ => rfl) (by decide)
            have hGG := mz_fr (K := []) (Fa := Ga) hgr9 (fun _ _ => rfl) (by decide)
            have hrel := (rK3.refl rfl).trans hrel9
            have hf2 := (hfr9 0 (by decide)).trans hf2
            have hf47 := (hfr9 8 (by decide)).trans hf47
            exact mz_iret (v := v49) hx hb hr rfl hlocks ⟨hIF, hIG, hIR, hFF, hRR, hGG, hrel⟩ hM hS dX13_terms_90
      · have hc27 : p1.toInt = 1 := (fi_eq rfl (show (1 : Int32).toInt = 1 by decide)).mp c9
        refine lv_iload_n hx hb dX13_terms_31 rfl (lv_at hl 2 rfl) ?_
        obtain ⟨w51, e_w51, h_w51⟩ : ∃ z : Int64, p2.toInt64 = z ∧ z.toInt = p2.toInt := ⟨_, rfl, fl_w _⟩
        refine lv_i2l (v := w51) hx hb dX13_terms_32 e_w51 ?_
        refine lv_lconst (v := 1) hx hb dX13_terms_33 (by decide) ?_
        refine lv_ldc2 hx hb hown (htl _ mw_287) dX13_terms_34 ?_
        have hk_1 : (1 : Int64).toInt = 1 := by decide
        have hk_999 : (999 : Int64).toInt = 999 := by decide
        refine mz_Sj (As := [.long w51, .long 1, .long 999]) (rest := []) ⟨hx, hb, hml, hown, hts⟩ hK hM hS (k_X13_in l D cy ld ad am hD _ _ _ _ w51 1 999) ⟨callB_of 3 hts (wl_in mw_292) rfl rfl rfl (htl _ mw_5) (htl _ mw_290) hd_yX13_in ⟨(Nat.le_of_ble_eq_true rfl), (Nat.le_of_ble_eq_true rfl)⟩, htl _ mw_291⟩ rfl hl.1 rfl (Nat.le_of_ble_eq_true rfl) dX13_terms_37 ⟨(Nat.le_of_ble_eq_true rfl), (Nat.le_of_ble_eq_true rfl)⟩ (fun v52 H locs hpo hM hS => ?_)
        obtain ⟨hpo53, hpo54, hpo55, hpo56, hpo57, hpo58⟩ := hpo
        have hq_v52 := tk_rng v52
        refine lv_goto (tgt := 65) hx hb dX13_terms_40 (by decide) ?_
        refine lv_istore_n (lv' := [(3, .int v52), (0, .ref am), (1, .int p1), (2, .int p2)]) hx hb dX13_terms_65 rfl hl (by decide) rfl (fun ls hl => ?_)
        refine lv_iload_n hx hb dX13_terms_66 rfl (lv_at hl 0 rfl) ?_
        refine lv_if_ne (tgt := 76) hx hb dX13_terms_67 (by decide) (fun c9 => ?_) (fun c9 => ?_)
        · have hc60 : ¬ (v52.toInt = 0) := fun h9 => c9 ((fi_eq rfl (show (0 : Int32).toInt = 0 by decide)).mpr h9)
          have hwk_61 : 1 ≤ w51.toInt ∧ w51.toInt ≤ 999 := by omega
          refine lv_aload_n hx hb dX13_terms_76 rfl (lv_at hl 1 rfl) ?_
          refine lv_iconst (v := 0) hx hb dX13_terms_77 (by decide) ?_
          have hk_0 : (0 : Int32).toInt = 0 := by decide
          have hk_0 : (0 : Int32).toInt = 0 := by decide
          refine mz_putI (ty := .int) (x := 0) hx hb htl hown hK hD hM hS 8 (Nat.le_of_ble_eq_true rfl) rfl (htl _ mw_289) (fun _ h9 => h9) rfl (tyX13_ok 8 (by decide)) rfl rfl dX13_terms_78 (fun H locs F hM hS hf9 hj9 => ?_)
          have hIF := hIF.put hf9 hj9 (show 0 ≤ (0 : Int32).toInt by omega) (show (0 : Int32).toInt ≤ 16 by omega) (by decide)
          have hFF := mz_frp (K := [0, 1, 8]) (Fa := Fa) hj9 hFF (by decide)
          have hf2 := (hj9 0 (by decide)).trans hf2
          have hf63 := hf9
          refine lv_aload_n hx hb dX13_terms_81 rfl (lv_at hl 1 rfl) ?_
          refine lv_bipush (v := 6) hx hb dX13_terms_82 (by decide) ?_
          refine lv_iload_n hx hb dX13_terms_84 rfl (lv_at hl 2 rfl) ?_
          refine lv_iadd hx hb dX13_terms_85 ?_
          refine tk_add (show (6 : Int32).toInt = 6 by decide) rfl (by omega) (by omega) (fun v64 h_v64 => ?_)
          refine lv_iload_n hx hb dX13_terms_86 rfl (lv_at hl 3 rfl) ?_
          refine mz_Vi (As := [.int v64, .int p2]) (rest := []) ⟨hx, hb, hml, hown, hts⟩ hK hM hS (k_X13_change l D cy ld ad am hD _ _ _ _ v64 p2 hIF hIG hIR (by omega) (by omega) (by omega)) ⟨callB_of 2 hts (wl_in mw_399) rfl rfl rfl (htl _ mw_5) (htl _ mw_396) hd_yX13_change ⟨(Nat.le_of_ble_eq_true rfl), (Nat.le_of_ble_eq_true rfl)⟩, htl _ mw_397, htl _ mw_398⟩ rfl hl.1 rfl (Nat.le_of_ble_eq_true rfl) dX13_terms_87 ⟨(Nat.le_of_ble_eq_true rfl), (Nat.le_of_ble_eq_true rfl)⟩ (fun v65 H locs F G R S hpo hM hS => ?_)
          obtain ⟨hIF, hIG, hIR, hfr9, hrr9, hgr9, hrel9⟩ := hpo
          have hq_v65 := tk_rng v65
          have hFF := mz_fr (K := [0, 1, 8]) (Fa := Fa) hfr9 hFF (by decide)
          have hRR := mz_fr (K := [2, 3]) (Fa := Ra) hrr9 (fun _ _ => rfl) (by decide)
          have hGG := mz_fr (K := []) (Fa := Ga) hgr9 (fun _ _ => rfl) (by decide)
          have hrel := (rK3.refl rfl).trans hrel9
          have hf2 := (hfr9 0 (by decide)).trans hf2
          have hf63 := (hfr9 8 (by decide)).trans hf63
          exact mz_iret (v := v65) hx hb hr rfl hlocks ⟨hIF, hIG, hIR, hFF, hRR, hGG, hrel⟩ hM hS dX13_terms_90
        · have hc60 : v52.toInt = 0 := (fi_eq rfl (show (0 : Int32).toInt = 0 by decide)).mp c9
          refine lv_aload_n hx hb dX13_terms_70 rfl (lv_at hl 1 rfl) ?_
          refine lv_iconst (v := (-1)) hx hb dX13_terms_71 (by decide) ?_
          have hk_m1 : ((-1) : Int32).toInt = (-1) := by decide
          refine mz_Vi (As := [.int (-1)]) (rest := []) ⟨hx, hb, hml, hown, hts⟩ hK hM hS (k_X13_tell l D cy ld ad am hD _ _ _ _ (-1) hIF hIG hIR (by omega) (by omega)) ⟨callB_of 1 hts (wl_in mw_296) rfl rfl rfl (htl _ mw_5) (htl _ mw_293) hd_yX13_tell ⟨(Nat.le_of_ble_eq_true rfl), (Nat.le_of_ble_eq_true rfl)⟩, htl _ mw_294, htl _ mw_295⟩ rfl hl.1 rfl (Nat.le_of_ble_eq_true rfl) dX13_terms_72 ⟨(Nat.le_of_ble_eq_true rfl), (Nat.le_of_ble_eq_true rfl)⟩ (fun v67 H locs F G R S hpo hM hS => ?_)
          obtain ⟨hIF, hIG, hIR, hfr9, hrr9, hgr9, hpo68⟩ := hpo
          have hq_v67 := tk_rng v67
          have hFF := mz_fr (K := [0, 1, 8]) (Fa := Fa) hfr9 hFF (by decide)
          have hRR := mz_fr (K := [2, 3]) (Fa := Ra) hrr9 (fun _ _ => rfl) (by decide)
          have hGG := mz_fr (K := []) (Fa := Ga) hgr9 (fun _ _ => rfl) (by decide)
          have hrel : rK3 (Ra 3) (R 3) := (rK3.refl rfl).trans (rK3.refl (hrr9 3 (by decide)))
          have hf2 := (hfr9 0 (by decide)).trans hf2
          exact mz_iret (v := v67) hx hb hr rfl hlocks ⟨hIF, hIG, hIR, hFF, hRR, hGG, hrel⟩ hM hS dX13_terms_75
    · have hc26 : p1.toInt = 2 := (fi_eq rfl (show (2 : Int32).toInt = 2 by decide)).mp c9
      refine lv_iload_n hx hb dX13_terms_14 rfl (lv_at hl 2 rfl) ?_
      obtain ⟨w70, e_w70, h_w70⟩ : ∃ z : Int64, p2.toInt64 = z ∧ z.toInt = p2.toInt := ⟨_, rfl, fl_w _⟩
      refine lv_i2l (v := w70) hx hb dX13_terms_15 e_w70 ?_
      refine lv_lconst (v := 0) hx hb dX13_terms_16 (by decide) ?_
      refine lv_ldc2 hx hb hown (htl _ mw_287) dX13_terms_17 ?_
      have hk_0 : (0 : Int64).toInt = 0 := by decide
      have hk_999 : (999 : Int64).toInt = 999 := by decide
      refine mz_Sj (As := [.long w70, .long 0, .long 999]) (rest := []) ⟨hx, hb, hml, hown, hts⟩ hK hM hS (k_X13_in l D cy ld ad am hD _ _ _ _ w70 0 999) ⟨callB_of 3 hts (wl_in mw_292) rfl rfl rfl (htl _ mw_5) (htl _ mw_290) hd_yX13_in ⟨(Nat.le_of_ble_eq_true rfl), (Nat.le_of_ble_eq_true rfl)⟩, htl _ mw_291⟩ rfl hl.1 rfl (Nat.le_of_ble_eq_true rfl) dX13_terms_20 ⟨(Nat.le_of_ble_eq_true rfl), (Nat.le_of_ble_eq_true rfl)⟩ (fun v71 H locs hpo hM hS => ?_)
      obtain ⟨hpo72, hpo73, hpo74, hpo75, hpo76, hpo77⟩ := hpo
      have hq_v71 := tk_rng v71
      refine lv_goto (tgt := 65) hx hb dX13_terms_23 (by decide) ?_
      refine lv_istore_n (lv' := [(3, .int v71), (0, .ref am), (1, .int p1), (2, .int p2)]) hx hb dX13_terms_65 rfl hl (by decide) rfl (fun ls hl => ?_)
      refine lv_iload_n hx hb dX13_terms_66 rfl (lv_at hl 0 rfl) ?_
      refine lv_if_ne (tgt := 76) hx hb dX13_terms_67 (by decide) (fun c9 => ?_) (fun c9 => ?_)
      · have hc79 : ¬ (v71.toInt = 0) := fun h9 => c9 ((fi_eq rfl (show (0 : Int32).toInt = 0 by decide)).mpr h9)
        have hwk_80 : 0 ≤ w70.toInt ∧ w70.toInt ≤ 999 := by omega
        refine lv_aload_n hx hb dX13_terms_76 rfl (lv_at hl 1 rfl) ?_
        refine lv_iconst (v := 0) hx hb dX13_terms_77 (by decide) ?_
        have hk_0 : (0 : Int32).toInt = 0 := by decide
        have hk_0 : (0 : Int32).toInt = 0 := by decide
        refine mz_putI (ty := .int) (x := 0) hx hb htl hown hK hD hM hS 8 (Nat.le_of_ble_eq_true rfl) rfl (htl _ mw_289) (fun _ h9 => h9) rfl (tyX13_ok 8 (by decide)) rfl rfl dX13_terms_78 (fun H locs F hM hS hf9 hj9 => ?_)
        have hIF := hIF.put hf9 hj9 (show 0 ≤ (0 : Int32).toInt by omega) (show (0 : Int32).toInt ≤ 16 by omega) (by decide)
        have hFF := mz_frp (K := [0, 1, 8]) (Fa := Fa) hj9 hFF (by decide)
        have hf2 := (hj9 0 (by decide)).trans hf2
        have hf82 := hf9
        refine lv_aload_n hx hb dX13_terms_81 rfl (lv_at hl 1 rfl) ?_
        refine lv_bipush (v := 6) hx hb dX13_terms_82 (by decide) ?_
        refine lv_iload_n hx hb dX13_terms_84 rfl (lv_at hl 2 rfl) ?_
        refine lv_iadd hx hb dX13_terms_85 ?_
        refine tk_add (show (6 : Int32).toInt = 6 by decide) rfl (by omega) (by omega) (fun v83 h_v83 => ?_)
        refine lv_iload_n hx hb dX13_terms_86 rfl (lv_at hl 3 rfl) ?_
        refine mz_Vi (As := [.int v83, .int p2]) (rest := []) ⟨hx, hb, hml, hown, hts⟩ hK hM hS (k_X13_change l D cy ld ad am hD _ _ _ _ v83 p2 hIF hIG hIR (by omega) (by omega) (by omega)) ⟨callB_of 2 hts (wl_in mw_399) rfl rfl rfl (htl _ mw_5) (htl _ mw_396) hd_yX13_change ⟨(Nat.le_of_ble_eq_true rfl), (Nat.le_of_ble_eq_true rfl)⟩, htl _ mw_397, htl _ mw_398⟩ rfl hl.1 rfl (Nat.le_of_ble_eq_true rfl) dX13_terms_87 ⟨(Nat.le_of_ble_eq_true rfl), (Nat.le_of_ble_eq_true rfl)⟩ (fun v84 H locs F G R S hpo hM hS => ?_)
        obtain ⟨hIF, hIG, hIR, hfr9, hrr9, hgr9, hrel9⟩ := hpo
        have hq_v84 := tk_rng v84
        have hFF := mz_fr (K := [0, 1, 8]) (Fa := Fa) hfr9 hFF (by decide)
        have hRR := mz_fr (K := [2, 3]) (Fa := Ra) hrr9 (fun _ _ => rfl) (by decide)
        have hGG := mz_fr (K := []) (Fa := Ga) hgr9 (fun _ _ => rfl) (by decide)
        have hrel := (rK3.refl rfl).trans hrel9
        have hf2 := (hfr9 0 (by decide)).trans hf2
        have hf82 := (hfr9 8 (by decide)).trans hf82
        exact mz_iret (v := v84) hx hb hr rfl hlocks ⟨hIF, hIG, hIR, hFF, hRR, hGG, hrel⟩ hM hS dX13_terms_90
      · have hc79 : v71.toInt = 0 := (fi_eq rfl (show (0 : Int32).toInt = 0 by decide)).mp c9
        refine lv_aload_n hx hb dX13_terms_70 rfl (lv_at hl 1 rfl) ?_
        refine lv_iconst (v := (-1)) hx hb dX13_terms_71 (by decide) ?_
        have hk_m1 : ((-1) : Int32).toInt = (-1) := by decide
        refine mz_Vi (As := [.int (-1)]) (rest := []) ⟨hx, hb, hml, hown, hts⟩ hK hM hS (k_X13_tell l D cy ld ad am hD _ _ _ _ (-1) hIF hIG hIR (by omega) (by omega)) ⟨callB_of 1 hts (wl_in mw_296) rfl rfl rfl (htl _ mw_5) (htl _ mw_293) hd_yX13_tell ⟨(Nat.le_of_ble_eq_true rfl), (Nat.le_of_ble_eq_true rfl)⟩, htl _ mw_294, htl _ mw_295⟩ rfl hl.1 rfl (Nat.le_of_ble_eq_true rfl) dX13_terms_72 ⟨(Nat.le_of_ble_eq_true rfl), (Nat.le_of_ble_eq_true rfl)⟩ (fun v86 H locs F G R S hpo hM hS => ?_)
        obtain ⟨hIF, hIG, hIR, hfr9, hrr9, hgr9, hpo87⟩ := hpo
        have hq_v86 := tk_rng v86
        have hFF := mz_fr (K := [0, 1, 8]) (Fa := Fa) hfr9 hFF (by decide)
        have hRR := mz_fr (K := [2, 3]) (Fa := Ra) hrr9 (fun _ _ => rfl) (by decide)
        have hGG := mz_fr (K := []) (Fa := Ga) hgr9 (fun _ _ => rfl) (by decide)
        have hrel : rK3 (Ra 3) (R 3) := (rK3.refl rfl).trans (rK3.refl (hrr9 3 (by decide)))
        have hf2 := (hfr9 0 (by decide)).trans hf2
        exact mz_iret (v := v86) hx hb hr rfl hlocks ⟨hIF, hIG, hIR, hFF, hRR, hGG, hrel⟩ hM hS dX13_terms_75
end
section
theorem dX13_row_0 : decode cX13_row 0 = .ok (.aload_n 0, 1) := by decide +kernel
theorem dX13_row_1 : decode cX13_row 1 = .ok (.iconst 0, 1) := by decide +kernel
theorem dX13_row_2 : decode cX13_row 2 = .ok (.putfield 170, 3) := by decide +kernel
theorem dX13_row_5 : decode cX13_row 5 = .ok (.aload_n 0, 1) := by decide +kernel
theorem dX13_row_6 : decode cX13_row 6 = .ok (.getfield 224, 3) := by decide +kernel
theorem dX13_row_9 : decode cX13_row 9 = .ok (.istore_n 1, 1) := by decide +kernel
theorem dX13_row_10 : decode cX13_row 10 = .ok (.aload_n 0, 1) := by decide +kernel
theorem dX13_row_11 : decode cX13_row 11 = .ok (.iconst 0, 1) := by decide +kernel
theorem dX13_row_12 : decode cX13_row 12 = .ok (.putfield 224, 3) := by decide +kernel
theorem dX13_row_15 : decode cX13_row 15 = .ok (.iload_n 1, 1) := by decide +kernel
theorem dX13_row_16 : decode cX13_row 16 = .ok (.ifCond .ne 10, 3) := by decide +kernel
theorem dX13_row_26 : decode cX13_row 26 = .ok (.aload_n 0, 1) := by decide +kernel
theorem dX13_row_27 : decode cX13_row 27 = .ok (.iconst 0, 1) := by decide +kernel
theorem dX13_row_28 : decode cX13_row 28 = .ok (.putfield 227, 3) := by decide +kernel
theorem dX13_row_31 : decode cX13_row 31 = .ok (.iconst 0, 1) := by decide +kernel
theorem dX13_row_32 : decode cX13_row 32 = .ok (.istore_n 2, 1) := by decide +kernel
theorem dX13_row_33 : decode cX13_row 33 = .ok (.iconst 0, 1) := by decide +kernel
theorem dX13_row_34 : decode cX13_row 34 = .ok (.istore_n 3, 1) := by decide +kernel
theorem dX13_row_35 : decode cX13_row 35 = .ok (.iload_n 3, 1) := by decide +kernel
theorem dX13_row_36 : decode cX13_row 36 = .ok (.iload_n 1, 1) := by decide +kernel
theorem dX13_row_37 : decode cX13_row 37 = .ok (.if_icmp .ge 53, 3) := by decide +kernel
theorem dX13_row_90 : decode cX13_row 90 = .ok (.aload_n 0, 1) := by decide +kernel
theorem dX13_row_91 : decode cX13_row 91 = .ok (.iload_n 2, 1) := by decide +kernel
theorem dX13_row_92 : decode cX13_row 92 = .ok (.invokevirtual 183, 3) := by decide +kernel
theorem dX13_row_95 : decode cX13_row 95 = .ok (.ireturn, 1) := by decide +kernel
theorem dX13_row_40 : decode cX13_row 40 = .ok (.iload_n 3, 1) := by decide +kernel
theorem dX13_row_41 : decode cX13_row 41 = .ok (.iconst 1, 1) := by decide +kernel
theorem dX13_row_42 : decode cX13_row 42 = .ok (.iadd, 1) := by decide +kernel
theorem dX13_row_43 : decode cX13_row 43 = .ok (.iload_n 1, 1) := by decide +kernel
theorem dX13_row_84 : decode cX13_row 84 = .ok (.iinc 3 2, 3) := by decide +kernel
theorem dX13_row_87 : decode cX13_row 87 = .ok (.goto (-52), 3) := by decide +kernel
theorem dX13_row_44 : decode cX13_row 44 = .ok (.if_icmp .ge 30, 3) := by decide +kernel
theorem dX13_row_74 : decode cX13_row 74 = .ok (.aload_n 0, 1) := by decide +kernel
theorem dX13_row_75 : decode cX13_row 75 = .ok (.dup, 1) := by decide +kernel
theorem dX13_row_76 : decode cX13_row 76 = .ok (.getfield 227, 3) := by decide +kernel
theorem dX13_row_79 : decode cX13_row 79 = .ok (.iconst 1, 1) := by decide +kernel
theorem dX13_row_80 : decode cX13_row 80 = .ok (.iadd, 1) := by decide +kernel
theorem dX13_row_81 : decode cX13_row 81 = .ok (.putfield 227, 3) := by decide +kernel
theorem dX13_row_47 : decode cX13_row 47 = .ok (.aload_n 0, 1) := by decide +kernel
theorem dX13_row_48 : decode cX13_row 48 = .ok (.aload_n 0, 1) := by decide +kernel
theorem dX13_row_49 : decode cX13_row 49 = .ok (.getfield 35, 3) := by decide +kernel
theorem dX13_row_52 : decode cX13_row 52 = .ok (.iload_n 3, 1) := by decide +kernel
theorem dX13_row_53 : decode cX13_row 53 = .ok (.iaload, 1) := by decide +kernel
theorem dX13_row_54 : decode cX13_row 54 = .ok (.aload_n 0, 1) := by decide +kernel
theorem dX13_row_55 : decode cX13_row 55 = .ok (.getfield 35, 3) := by decide +kernel
theorem dX13_row_58 : decode cX13_row 58 = .ok (.iload_n 3, 1) := by decide +kernel
theorem dX13_row_59 : decode cX13_row 59 = .ok (.iconst 1, 1) := by decide +kernel
theorem dX13_row_60 : decode cX13_row 60 = .ok (.iadd, 1) := by decide +kernel
theorem dX13_row_61 : decode cX13_row 61 = .ok (.iaload, 1) := by decide +kernel
theorem dX13_row_62 : decode cX13_row 62 = .ok (.invokevirtual 213, 3) := by decide +kernel
theorem dX13_row_65 : decode cX13_row 65 = .ok (.ifCond .lt 9, 3) := by decide +kernel
theorem dX13_row_68 : decode cX13_row 68 = .ok (.iinc 2 1, 3) := by decide +kernel
theorem dX13_row_71 : decode cX13_row 71 = .ok (.goto 13, 3) := by decide +kernel
theorem dX13_row_19 : decode cX13_row 19 = .ok (.aload_n 0, 1) := by decide +kernel
theorem dX13_row_20 : decode cX13_row 20 = .ok (.bipush (-6), 2) := by decide +kernel
theorem dX13_row_22 : decode cX13_row 22 = .ok (.invokevirtual 183, 3) := by decide +kernel
theorem dX13_row_25 : decode cX13_row 25 = .ok (.ireturn, 1) := by decide +kernel
end
section
theorem dX13_coughs_0 : decode cX13_coughs 0 = .ok (.aload_n 0, 1) := by decide +kernel
theorem dX13_coughs_1 : decode cX13_coughs 1 = .ok (.iconst 0, 1) := by decide +kernel
theorem dX13_coughs_2 : decode cX13_coughs 2 = .ok (.putfield 170, 3) := by decide +kernel
theorem dX13_coughs_5 : decode cX13_coughs 5 = .ok (.aload_n 0, 1) := by decide +kernel
theorem dX13_coughs_6 : decode cX13_coughs 6 = .ok (.getfield 227, 3) := by decide +kernel
theorem dX13_coughs_9 : decode cX13_coughs 9 = .ok (.ireturn, 1) := by decide +kernel
end
