theorem dX13_verse1_0 : decode cX13_verse1 0 = .ok (.iload_n 1, 1) := by decide +kernel
theorem dX13_verse1_1 : decode cX13_verse1 1 = .ok (.i2l, 1) := by decide +kernel
theorem dX13_verse1_2 : decode cX13_verse1 2 = .ok (.lconst 1, 1) := by decide +kernel
theorem dX13_verse1_3 : decode cX13_verse1 3 = .ok (.ldc2_w 211, 3) := by decide +kernel
theorem dX13_verse1_6 : decode cX13_verse1 6 = .ok (.invokestatic 190, 3) := by decide +kernel
theorem dX13_verse1_9 : decode cX13_verse1 9 = .ok (.ifCond .eq 15, 3) := by decide +kernel
theorem dX13_verse1_24 : decode cX13_verse1 24 = .ok (.iconst (-1), 1) := by decide +kernel
theorem dX13_verse1_25 : decode cX13_verse1 25 = .ok (.ireturn, 1) := by decide +kernel
theorem dX13_verse1_12 : decode cX13_verse1 12 = .ok (.iload_n 2, 1) := by decide +kernel
theorem dX13_verse1_13 : decode cX13_verse1 13 = .ok (.i2l, 1) := by decide +kernel
theorem dX13_verse1_14 : decode cX13_verse1 14 = .ok (.lconst 0, 1) := by decide +kernel
theorem dX13_verse1_15 : decode cX13_verse1 15 = .ok (.ldc2_w 205, 3) := by decide +kernel
theorem dX13_verse1_18 : decode cX13_verse1 18 = .ok (.invokestatic 190, 3) := by decide +kernel
theorem dX13_verse1_21 : decode cX13_verse1 21 = .ok (.ifCond .ne 5, 3) := by decide +kernel
theorem dX13_verse1_26 : decode cX13_verse1 26 = .ok (.aload_n 0, 1) := by decide +kernel
theorem dX13_verse1_27 : decode cX13_verse1 27 = .ok (.getfield 13, 3) := by decide +kernel
theorem dX13_verse1_30 : decode cX13_verse1 30 = .ok (.iconst 1, 1) := by decide +kernel
theorem dX13_verse1_31 : decode cX13_verse1 31 = .ok (.iaload, 1) := by decide +kernel
theorem dX13_verse1_32 : decode cX13_verse1 32 = .ok (.istore_n 3, 1) := by decide +kernel
theorem dX13_verse1_33 : decode cX13_verse1 33 = .ok (.iload_n 3, 1) := by decide +kernel
theorem dX13_verse1_34 : decode cX13_verse1 34 = .ok (.bipush 10, 2) := by decide +kernel
theorem dX13_verse1_36 : decode cX13_verse1 36 = .ok (.if_icmp .ne 6, 3) := by decide +kernel
theorem dX13_verse1_42 : decode cX13_verse1 42 = .ok (.aload_n 0, 1) := by decide +kernel
theorem dX13_verse1_43 : decode cX13_verse1 43 = .ok (.getfield 13, 3) := by decide +kernel
theorem dX13_verse1_46 : decode cX13_verse1 46 = .ok (.bipush 58, 2) := by decide +kernel
theorem dX13_verse1_48 : decode cX13_verse1 48 = .ok (.iconst 2, 1) := by decide +kernel
theorem dX13_verse1_49 : decode cX13_verse1 49 = .ok (.iload_n 3, 1) := by decide +kernel
theorem dX13_verse1_50 : decode cX13_verse1 50 = .ok (.imul, 1) := by decide +kernel
theorem dX13_verse1_51 : decode cX13_verse1 51 = .ok (.iadd, 1) := by decide +kernel
theorem dX13_verse1_52 : decode cX13_verse1 52 = .ok (.iload_n 1, 1) := by decide +kernel
theorem dX13_verse1_53 : decode cX13_verse1 53 = .ok (.iastore, 1) := by decide +kernel
theorem dX13_verse1_54 : decode cX13_verse1 54 = .ok (.aload_n 0, 1) := by decide +kernel
theorem dX13_verse1_55 : decode cX13_verse1 55 = .ok (.getfield 13, 3) := by decide +kernel
theorem dX13_verse1_58 : decode cX13_verse1 58 = .ok (.bipush 58, 2) := by decide +kernel
theorem dX13_verse1_60 : decode cX13_verse1 60 = .ok (.iconst 2, 1) := by decide +kernel
theorem dX13_verse1_61 : decode cX13_verse1 61 = .ok (.iload_n 3, 1) := by decide +kernel
theorem dX13_verse1_62 : decode cX13_verse1 62 = .ok (.imul, 1) := by decide +kernel
theorem dX13_verse1_63 : decode cX13_verse1 63 = .ok (.iadd, 1) := by decide +kernel
theorem dX13_verse1_64 : decode cX13_verse1 64 = .ok (.iconst 1, 1) := by decide +kernel
theorem dX13_verse1_65 : decode cX13_verse1 65 = .ok (.iadd, 1) := by decide +kernel
theorem dX13_verse1_66 : decode cX13_verse1 66 = .ok (.iload_n 2, 1) := by decide +kernel
theorem dX13_verse1_67 : decode cX13_verse1 67 = .ok (.iastore, 1) := by decide +kernel
theorem dX13_verse1_68 : decode cX13_verse1 68 = .ok (.aload_n 0, 1) := by decide +kernel
theorem dX13_verse1_69 : decode cX13_verse1 69 = .ok (.getfield 13, 3) := by decide +kernel
theorem dX13_verse1_72 : decode cX13_verse1 72 = .ok (.iconst 1, 1) := by decide +kernel
theorem dX13_verse1_73 : decode cX13_verse1 73 = .ok (.dup2, 1) := by decide +kernel
theorem dX13_verse1_74 : decode cX13_verse1 74 = .ok (.iaload, 1) := by decide +kernel
theorem dX13_verse1_75 : decode cX13_verse1 75 = .ok (.iconst 1, 1) := by decide +kernel
theorem dX13_verse1_76 : decode cX13_verse1 76 = .ok (.iadd, 1) := by decide +kernel
theorem dX13_verse1_77 : decode cX13_verse1 77 = .ok (.iastore, 1) := by decide +kernel
theorem dX13_verse1_78 : decode cX13_verse1 78 = .ok (.iload_n 3, 1) := by decide +kernel
theorem dX13_verse1_79 : decode cX13_verse1 79 = .ok (.ireturn, 1) := by decide +kernel
theorem dX13_verse1_39 : decode cX13_verse1 39 = .ok (.bipush (-5), 2) := by decide +kernel
theorem dX13_verse1_41 : decode cX13_verse1 41 = .ok (.ireturn, 1) := by decide +kernel
set_option maxHeartbeats 4000000 in
set_option maxRecDepth 100000 in
theorem k_X13_verse1 (l : Launch) (D : va_G) (cy : Nat → ClassId) (ld ad : Nat → Nat) (am : Nat) (hD : mz_D ad am) (Fa : Nat → Int32) (Ga : Nat → Int64) (Ra : Nat → Nat → Int32) (Sa : Nat → Nat → Int64) (p1 : Int32) (p2 : Int32) (hIF : mz_IF true Fa) (hIG : mz_IG Ga) (hIR : mz_IR [] true Ra) : Met l yX13_verse1 (wl yX13_verse1 cX13_verse1 4 (some .int)) ({ frames := 4, cells := 0, slots := 0, locals := 210 }) (mz_p D cy ld ad am Fa Ga Ra Sa [.ref am, .int p1, .int p2]) (mz_i D cy ad am (fun r F G R S => mz_IF true F ∧ mz_IG G ∧ mz_IR [] true R ∧ (∀ k : Nat, k ∉ ([] : List Nat) → F k = Fa k) ∧ (∀ k : Nat, k ∉ ([3] : List Nat) → R k = Ra k) ∧ (∀ k : Nat, k ∉ ([] : List Nat) → G k = Ga k) ∧ (-5) ≤ r.toInt ∧ r.toInt ≤ 9)) 0 0 (mz_W ad am) := by
  refine mz_met (y := yX13_verse1) (cc := cX13_verse1) (maxL := 4) (ret := (some .int)) (av := [.ref am, .int p1, .int p2]) _ (by decide) (Nat.le_of_ble_eq_true rfl) ?_
  intro p e s m args below meth c hx hb hr hml hts htl hown hlocks hK H locs hM hS ls hl
  have hown : s.vm.findClass RX13 = some m.cls := hown
  have hl : lv_has ls 4 [(0, .ref am), (1, .int p1), (2, .int p2)] := hl
  have hr_p1 := tk_rng p1
  have hr_p2 := tk_rng p2
  refine lv_iload_n hx hb dX13_verse1_0 rfl (lv_at hl 1 rfl) ?_
  obtain ⟨w1, e_w1, h_w1⟩ : ∃ z : Int64, p1.toInt64 = z ∧ z.toInt = p1.toInt := ⟨_, rfl, fl_w _⟩
  refine lv_i2l (v := w1) hx hb dX13_verse1_1 e_w1 ?_
  refine lv_lconst (v := 1) hx hb dX13_verse1_2 (by decide) ?_
  refine lv_ldc2 hx hb hown (htl _ mw_342) dX13_verse1_3 ?_
  have hk_1 : (1 : Int64).toInt = 1 := by decide
  have hk_99 : (99 : Int64).toInt = 99 := by decide
  refine mz_Sj (As := [.long w1, .long 1, .long 99]) (rest := []) ⟨hx, hb, hml, hown, hts⟩ hK hM hS (k_X13_in l D cy ld ad am hD _ _ _ _ w1 1 99) ⟨callB_of 3 hts (wl_in mw_292) rfl rfl rfl (htl _ mw_5) (htl _ mw_290) hd_yX13_in ⟨(Nat.le_of_ble_eq_true rfl), (Nat.le_of_ble_eq_true rfl)⟩, htl _ mw_291⟩ rfl hl.1 rfl (Nat.le_of_ble_eq_true rfl) dX13_verse1_6 ⟨(Nat.le_of_ble_eq_true rfl), (Nat.le_of_ble_eq_true rfl)⟩ (fun v2 H locs hpo hM hS => ?_)
  obtain ⟨hpo3, hpo4, hpo5, hpo6, hpo10, hpo11⟩ := hpo
  have hq_v2 := tk_rng v2
  refine lv_if_eq (tgt := 24) hx hb dX13_verse1_9 (by decide) (fun c9 => ?_) (fun c9 => ?_)
  · have hc13 : v2.toInt = 0 := (fi_eq rfl (show (0 : Int32).toInt = 0 by decide)).mp c9
    refine lv_iconst (v := (-1)) hx hb dX13_verse1_24 (by decide) ?_
    have hk_m1 : ((-1) : Int32).toInt = (-1) := by decide
    exact mz_iret (v := (-1)) hx hb hr rfl hlocks ⟨hIF, hIG, hIR, (fun _ _ => rfl), (fun _ _ => rfl), (fun _ _ => rfl), (by omega), (by omega)⟩ hM hS dX13_verse1_25
  · have hc13 : ¬ (v2.toInt = 0) := fun h9 => c9 ((fi_eq rfl (show (0 : Int32).toInt = 0 by decide)).mpr h9)
    have hwk_14 : 1 ≤ w1.toInt ∧ w1.toInt ≤ 99 := by omega
    refine lv_iload_n hx hb dX13_verse1_12 rfl (lv_at hl 2 rfl) ?_
    obtain ⟨w15, e_w15, h_w15⟩ : ∃ z : Int64, p2.toInt64 = z ∧ z.toInt = p2.toInt := ⟨_, rfl, fl_w _⟩
    refine lv_i2l (v := w15) hx hb dX13_verse1_13 e_w15 ?_
    refine lv_lconst (v := 0) hx hb dX13_verse1_14 (by decide) ?_
    refine lv_ldc2 hx hb hown (htl _ mw_316) dX13_verse1_15 ?_
    have hk_0 : (0 : Int64).toInt = 0 := by decide
    have hk_4 : (4 : Int64).toInt = 4 := by decide
    refine mz_Sj (As := [.long w15, .long 0, .long 4]) (rest := []) ⟨hx, hb, hml, hown, hts⟩ hK hM hS (k_X13_in l D cy ld ad am hD _ _ _ _ w15 0 4) ⟨callB_of 3 hts (wl_in mw_292) rfl rfl rfl (htl _ mw_5) (htl _ mw_290) hd_yX13_in ⟨(Nat.le_of_ble_eq_true rfl), (Nat.le_of_ble_eq_true rfl)⟩, htl _ mw_291⟩ rfl hl.1 rfl (Nat.le_of_ble_eq_true rfl) dX13_verse1_18 ⟨(Nat.le_of_ble_eq_true rfl), (Nat.le_of_ble_eq_true rfl)⟩ (fun v16 H locs hpo hM hS => ?_)
    obtain ⟨hpo17, hpo18, hpo19, hpo20, hpo21, hpo22⟩ := hpo
    have hq_v16 := tk_rng v16
    refine lv_if_ne (tgt := 26) hx hb dX13_verse1_21 (by decide) (fun c9 => ?_) (fun c9 => ?_)
    · have hc24 : ¬ (v16.toInt = 0) := fun h9 => c9 ((fi_eq rfl (show (0 : Int32).toInt = 0 by decide)).mpr h9)
      have hwk_25 : 0 ≤ w15.toInt ∧ w15.toInt ≤ 4 := by omega
      refine lv_aload_n hx hb dX13_verse1_26 rfl (lv_at hl 0 rfl) ?_
      refine mz_getR hx hb htl hown hK hM 3 (Nat.le_of_ble_eq_true rfl) (Nat.le_of_ble_eq_true rfl) (htl _ mw_188) (fun _ h9 => h9) dX13_verse1_27 ?_
      refine lv_iconst (v := 1) hx hb dX13_verse1_30 (by decide) ?_
      refine mz_iald hx hb hK hM 3 (Nat.le_of_ble_eq_true rfl) rfl (nn := 5560) rfl (I := 1) (by decide) (by decide) (by decide) dX13_verse1_31 (fun v27 hf26 => ?_)
      have hf26 : Ra 3 1 = v27 := hf26
      have hq_v27 := tk_rng v27
      have hr_v27 : 0 ≤ v27.toInt ∧ v27.toInt ≤ 10 := by have h9 := mz_r3c 1 (hIR.at 3) hf26 (by decide); unfold mE at h9; omega
      refine lv_istore_n (lv' := [(3, .int v27), (0, .ref am), (1, .int p1), (2, .int p2)]) hx hb dX13_verse1_32 rfl hl (by decide) rfl (fun ls hl => ?_)
      refine lv_iload_n hx hb dX13_verse1_33 rfl (lv_at hl 0 rfl) ?_
      refine lv_bipush (v := 10) hx hb dX13_verse1_34 (by decide) ?_
      refine lv_icmp_ne (tgt := 42) hx hb dX13_verse1_36 (by decide) (fun c9 => ?_) (fun c9 => ?_)
      · have hc28 : ¬ (v27.toInt = 10) := fun h9 => c9 ((fi_eq rfl (show (10 : Int32).toInt = 10 by decide)).mpr h9)
        refine lv_aload_n hx hb dX13_verse1_42 rfl (lv_at hl 1 rfl) ?_
        refine mz_getR hx hb htl hown hK hM 3 (Nat.le_of_ble_eq_true rfl) (Nat.le_of_ble_eq_true rfl) (htl _ mw_188) (fun _ h9 => h9) dX13_verse1_43 ?_
        refine lv_bipush (v := 58) hx hb dX13_verse1_46 (by decide) ?_
        refine lv_iconst (v := 2) hx hb dX13_verse1_48 (by decide) ?_
        refine lv_iload_n hx hb dX13_verse1_49 rfl (lv_at hl 0 rfl) ?_
        refine lv_imul hx hb dX13_verse1_50 ?_
        refine tk_mul (show (2 : Int32).toInt = 2 by decide) rfl (by omega) (by omega) (fun v29 h_v29 => ?_)
        refine lv_iadd hx hb dX13_verse1_51 ?_
        refine tk_add (show (58 : Int32).toInt = 58 by decide) rfl (by omega) (by omega) (fun v30 h_v30 => ?_)
        refine lv_iload_n hx hb dX13_verse1_52 rfl (lv_at hl 2 rfl) ?_
        refine mz_iast (x := p1) hx hb hK hD hM hS 3 (Nat.le_of_ble_eq_true rfl) rfl (nn := 5560) rfl rfl (by omega) (by omega) dX13_verse1_53 (fun H locs R hM hS hw9 hj9 => ?_)
        have hIR := hIR.put hw9 hj9 (mz_r3 (hIR.at 3) (I := v30.toInt) rfl (by omega) (by omega) (fun h9 => by first | (cases h9; done) | omega) (by unfold mE; omega))
        have hRR := mz_frp (K := [3]) (Fa := Ra) hj9 (fun _ _ => rfl) (by decide)
        have hf26 : R 3 1 = _ := (congrFun hw9 1).trans ((pk_un (fun h9 => by have h8 := tk_nat (i := v30) rfl (by omega); omega)).trans hf26)
        refine lv_aload_n hx hb dX13_verse1_54 rfl (lv_at hl 1 rfl) ?_
        refine mz_getR hx hb htl hown hK hM 3 (Nat.le_of_ble_eq_true rfl) (Nat.le_of_ble_eq_true rfl) (htl _ mw_188) (fun _ h9 => h9) dX13_verse1_55 ?_
        refine lv_bipush (v := 58) hx hb dX13_verse1_58 (by decide) ?_
        refine lv_iconst (v := 2) hx hb dX13_verse1_60 (by decide) ?_
        refine lv_iload_n hx hb dX13_verse1_61 rfl (lv_at hl 0 rfl) ?_
        refine lv_imul hx hb dX13_verse1_62 ?_
        refine tk_mul (show (2 : Int32).toInt = 2 by decide) rfl (by omega) (by omega) (fun v32 h_v32 => ?_)
        refine lv_iadd hx hb dX13_verse1_63 ?_
        refine tk_add (show (58 : Int32).toInt = 58 by decide) rfl (by omega) (by omega) (fun v33 h_v33 => ?_)
        refine lv_iconst (v := 1) hx hb dX13_verse1_64 (by decide) ?_
        refine lv_iadd hx hb dX13_verse1_65 ?_
        refine tk_add rfl (show (1 : Int32).toInt = 1 by decide) (by omega) (by omega) (fun v34 h_v34 => ?_)
        refine lv_iload_n hx hb dX13_verse1_66 rfl (lv_at hl 3 rfl) ?_
        refine mz_iast (x := p2) hx hb hK hD hM hS 3 (Nat.le_of_ble_eq_true rfl) rfl (nn := 5560) rfl rfl (by omega) (by omega) dX13_verse1_67 (fun H locs R hM hS hw9 hj9 => ?_)
        have hIR := hIR.put hw9 hj9 (mz_r3 (hIR.at 3) (I := v34.toInt) rfl (by omega) (by omega) (fun h9 => by first | (cases h9; done) | omega) (by unfold mE; omega))
        have hRR := mz_frp (K := [3]) (Fa := Ra) hj9 hRR (by decide)
        have hf26 : R 3 1 = _ := (congrFun hw9 1).trans ((pk_un (fun h9 => by have h8 := tk_nat (i := v34) rfl (by omega); omega)).trans hf26)
        refine lv_aload_n hx hb dX13_verse1_68 rfl (lv_at hl 1 rfl) ?_
        refine mz_getR hx hb htl hown hK hM 3 (Nat.le_of_ble_eq_true rfl) (Nat.le_of_ble_eq_true rfl) (htl _ mw_188) (fun _ h9 => h9) dX13_verse1_69 ?_
        refine lv_iconst (v := 1) hx hb dX13_verse1_72 (by decide) ?_
        refine lv_dup2_11 hx hb dX13_verse1_73 rfl rfl ?_
        refine mz_iald hx hb hK hM 3 (Nat.le_of_ble_eq_true rfl) rfl (nn := 5560) rfl (I := 1) (by decide) (by decide) (by decide) dX13_verse1_74 (fun v9 e9 => ?_)
        refine fx_ti (v := v27) (e9.symm.trans (show R 3 (1 : Int32).toNatClampNeg = _ from hf26)) ?_
        refine lv_iconst (v := 1) hx hb dX13_verse1_75 (by decide) ?_
        refine lv_iadd hx hb dX13_verse1_76 ?_
        refine tk_add rfl (show (1 : Int32).toInt = 1 by decide) (by omega) (by omega) (fun v36 h_v36 => ?_)
        have hk_1 : (1 : Int32).toInt = 1 := by decide
        refine mz_iast (x := v36) hx hb hK hD hM hS 3 (Nat.le_of_ble_eq_true rfl) rfl (nn := 5560) rfl (I := 1) (by decide) (by decide) (by decide) dX13_verse1_77 (fun H locs R hM hS hw9 hj9 => ?_)
        have hIR := hIR.put hw9 hj9 (mz_r3 (hIR.at 3) (I := 1) (by decide) (by omega) (by omega) (fun h9 => by first | (cases h9; done) | omega) (by unfold mE; omega))
        have hRR := mz_frp (K := [3]) (Fa := Ra) hj9 hRR (by decide)
        have hf38 : R 3 1 = v36 := (congrFun hw9 1).trans pk_us
        refine lv_iload_n hx hb dX13_verse1_78 rfl (lv_at hl 0 rfl) ?_
        exact mz_iret (v := v27) hx hb hr rfl hlocks ⟨hIF, hIG, hIR, (fun _ _ => rfl), hRR, (fun _ _ => rfl), (by omega), (by omega)⟩ hM hS dX13_verse1_79
      · have hc28 : v27.toInt = 10 := (fi_eq rfl (show (10 : Int32).toInt = 10 by decide)).mp c9
        refine lv_bipush (v := (-5)) hx hb dX13_verse1_39 (by decide) ?_
        have hk_m5 : ((-5) : Int32).toInt = (-5) := by decide
        exact mz_iret (v := (-5)) hx hb hr rfl hlocks ⟨hIF, hIG, hIR, (fun _ _ => rfl), (fun _ _ => rfl), (fun _ _ => rfl), (by omega), (by omega)⟩ hM hS dX13_verse1_41
    · have hc24 : v16.toInt = 0 := (fi_eq rfl (show (0 : Int32).toInt = 0 by decide)).mp c9
      refine lv_iconst (v := (-1)) hx hb dX13_verse1_24 (by decide) ?_
      have hk_m1 : ((-1) : Int32).toInt = (-1) := by decide
      exact mz_iret (v := (-1)) hx hb hr rfl hlocks ⟨hIF, hIG, hIR, (fun _ _ => rfl), (fun _ _ => rfl), (fun _ _ => rfl), (by omega), (by omega)⟩ hM hS dX13_verse1_25
