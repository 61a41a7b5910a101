theorem hd_yX13_isDuel : yX13_isDuel.cls ≠ "java/lang/invoke/MethodHandle" ∧ yX13_isDuel.cls ≠ "java/lang/invoke/VarHandle" ∧ (parseMethodDescriptor yX13_isDuel.desc).map (fun d => d.parameters.length) = some 0 := by decide +kernel
theorem hd_yX13_layVerse : yX13_layVerse.cls ≠ "java/lang/invoke/MethodHandle" ∧ yX13_layVerse.cls ≠ "java/lang/invoke/VarHandle" ∧ (parseMethodDescriptor yX13_layVerse.desc).map (fun d => d.parameters.length) = some 1 := by decide +kernel
theorem hd_yX13_isBarredSet : yX13_isBarredSet.cls ≠ "java/lang/invoke/MethodHandle" ∧ yX13_isBarredSet.cls ≠ "java/lang/invoke/VarHandle" ∧ (parseMethodDescriptor yX13_isBarredSet.desc).map (fun d => d.parameters.length) = some 0 := by decide +kernel
theorem hd_yX13_tiresSet : yX13_tiresSet.cls ≠ "java/lang/invoke/MethodHandle" ∧ yX13_tiresSet.cls ≠ "java/lang/invoke/VarHandle" ∧ (parseMethodDescriptor yX13_tiresSet.desc).map (fun d => d.parameters.length) = some 0 := by decide +kernel
theorem hd_yX13_lullsSet : yX13_lullsSet.cls ≠ "java/lang/invoke/MethodHandle" ∧ yX13_lullsSet.cls ≠ "java/lang/invoke/VarHandle" ∧ (parseMethodDescriptor yX13_lullsSet.desc).map (fun d => d.parameters.length) = some 0 := by decide +kernel
theorem dX13_asks_0 : decode cX13_asks 0 = .ok (.aload_n 0, 1) := by decide +kernel
theorem dX13_asks_1 : decode cX13_asks 1 = .ok (.iconst 0, 1) := by decide +kernel
theorem dX13_asks_2 : decode cX13_asks 2 = .ok (.putfield 170, 3) := by decide +kernel
theorem dX13_asks_5 : decode cX13_asks 5 = .ok (.aload_n 0, 1) := by decide +kernel
theorem dX13_asks_6 : decode cX13_asks 6 = .ok (.invokevirtual 434, 3) := by decide +kernel
theorem dX13_asks_9 : decode cX13_asks 9 = .ok (.ifCond .eq 23, 3) := by decide +kernel
theorem dX13_asks_32 : decode cX13_asks 32 = .ok (.iconst (-1), 1) := by decide +kernel
theorem dX13_asks_33 : decode cX13_asks 33 = .ok (.ireturn, 1) := by decide +kernel
theorem dX13_asks_12 : decode cX13_asks 12 = .ok (.aload_n 0, 1) := by decide +kernel
theorem dX13_asks_13 : decode cX13_asks 13 = .ok (.iload_n 1, 1) := by decide +kernel
theorem dX13_asks_14 : decode cX13_asks 14 = .ok (.invokevirtual 216, 3) := by decide +kernel
theorem dX13_asks_17 : decode cX13_asks 17 = .ok (.ifCond .eq 15, 3) := by decide +kernel
theorem dX13_asks_20 : decode cX13_asks 20 = .ok (.iload_n 2, 1) := by decide +kernel
theorem dX13_asks_21 : decode cX13_asks 21 = .ok (.i2l, 1) := by decide +kernel
theorem dX13_asks_22 : decode cX13_asks 22 = .ok (.lconst 0, 1) := by decide +kernel
theorem dX13_asks_23 : decode cX13_asks 23 = .ok (.ldc2_w 415, 3) := by decide +kernel
theorem dX13_asks_26 : decode cX13_asks 26 = .ok (.invokestatic 190, 3) := by decide +kernel
theorem dX13_asks_29 : decode cX13_asks 29 = .ok (.ifCond .ne 5, 3) := by decide +kernel
theorem dX13_asks_34 : decode cX13_asks 34 = .ok (.aload_n 0, 1) := by decide +kernel
theorem dX13_asks_35 : decode cX13_asks 35 = .ok (.iload_n 1, 1) := by decide +kernel
theorem dX13_asks_36 : decode cX13_asks 36 = .ok (.invokevirtual 437, 3) := by decide +kernel
theorem dX13_asks_39 : decode cX13_asks 39 = .ok (.iload_n 2, 1) := by decide +kernel
theorem dX13_asks_40 : decode cX13_asks 40 = .ok (.ifCond .ne 10, 3) := by decide +kernel
theorem dX13_asks_50 : decode cX13_asks 50 = .ok (.iload_n 2, 1) := by decide +kernel
theorem dX13_asks_51 : decode cX13_asks 51 = .ok (.iconst 1, 1) := by decide +kernel
theorem dX13_asks_52 : decode cX13_asks 52 = .ok (.if_icmp .ne 10, 3) := by decide +kernel
theorem dX13_asks_62 : decode cX13_asks 62 = .ok (.aload_n 0, 1) := by decide +kernel
theorem dX13_asks_63 : decode cX13_asks 63 = .ok (.invokevirtual 446, 3) := by decide +kernel
theorem dX13_asks_66 : decode cX13_asks 66 = .ok (.ifCond .eq 7, 3) := by decide +kernel
theorem dX13_asks_73 : decode cX13_asks 73 = .ok (.iconst 0, 1) := by decide +kernel
theorem dX13_asks_74 : decode cX13_asks 74 = .ok (.ireturn, 1) := by decide +kernel
theorem dX13_asks_69 : decode cX13_asks 69 = .ok (.iconst 1, 1) := by decide +kernel
theorem dX13_asks_70 : decode cX13_asks 70 = .ok (.goto 4, 3) := by decide +kernel
theorem dX13_asks_55 : decode cX13_asks 55 = .ok (.aload_n 0, 1) := by decide +kernel
theorem dX13_asks_56 : decode cX13_asks 56 = .ok (.invokevirtual 443, 3) := by decide +kernel
theorem dX13_asks_59 : decode cX13_asks 59 = .ok (.goto 15, 3) := by decide +kernel
theorem dX13_asks_43 : decode cX13_asks 43 = .ok (.aload_n 0, 1) := by decide +kernel
theorem dX13_asks_44 : decode cX13_asks 44 = .ok (.invokevirtual 440, 3) := by decide +kernel
theorem dX13_asks_47 : decode cX13_asks 47 = .ok (.goto 27, 3) := by decide +kernel
set_option maxHeartbeats 4000000 in
set_option maxRecDepth 100000 in
theorem k_X13_asks (l : Launch) (D : va_G) (cy : Nat → ClassId) (ld ad : Nat → Nat) (am : Nat) (hD : mz_D ad am) (Fa : Nat → Int32) (Ga : Nat → Int64) (Ra : Nat → Nat → Int32) (Sa : Nat → Nat → Int64) (p1 : Int32) (p2 : Int32) (hIF : mz_IF true Fa) (hIG : mz_IG Ga) (hIR : mz_IR [] true Ra) : Met l yX13_asks (wl yX13_asks cX13_asks 3 (some .int)) ({ frames := 9, cells := 0, slots := 0, locals := 560 }) (mz_p D cy ld ad am Fa Ga Ra Sa [.ref am, .int p1, .int p2]) (mz_i D cy ad am (fun r F G R S => mz_IF true F ∧ mz_IG G ∧ mz_IR [] true R ∧ (∀ k : Nat, k ∉ ([0, 34, 38] : List Nat) → F k = Fa k) ∧ (∀ k : Nat, k ∉ ([] : List Nat) → R k = Ra k) ∧ (∀ k : Nat, k ∉ ([39, 40] : List Nat) → G k = Ga k) ∧ (-1) ≤ r.toInt ∧ r.toInt ≤ 999)) 0 0 (mz_W ad am) := by
  refine mz_met (y := yX13_asks) (cc := cX13_asks) (maxL := 3) (ret := (some .int)) (av := [.ref am, .int p1, .int p2]) _ (by decide) (Nat.le_of_ble_eq_true rfl) ?_
  intro p e s m args below meth c hx hb hr hml hts htl hown hlocks hK H locs hM hS ls hl
  have hown : s.vm.findClass RX13 = some m.cls := hown
  have hl : lv_has ls 3 [(0, .ref am), (1, .int p1), (2, .int p2)] := hl
  have hr_p1 := tk_rng p1
  have hr_p2 := tk_rng p2
  refine lv_aload_n hx hb dX13_asks_0 rfl (lv_at hl 0 rfl) ?_
  refine lv_iconst (v := 0) hx hb dX13_asks_1 (by decide) ?_
  have hk_0 : (0 : Int32).toInt = 0 := by decide
  refine mz_putI (ty := .int) (x := 0) hx hb htl hown hK hD hM hS 0 (Nat.le_of_ble_eq_true rfl) rfl (htl _ mw_286) (fun _ h9 => h9) rfl (tyX13_ok 0 (by decide)) rfl rfl dX13_asks_2 (fun H locs F hM hS hf9 hj9 => ?_)
  have hIF := hIF.put hf9 hj9 (tk_rng _).1 (tk_rng _).2 (by decide)
  have hFF := mz_frp (K := [0, 34, 38]) (Fa := Fa) hj9 (fun _ _ => rfl) (by decide)
  have hf2 := hf9
  refine lv_aload_n hx hb dX13_asks_5 rfl (lv_at hl 0 rfl) ?_
  obtain ⟨v4, hf3⟩ : ∃ z : Int32, Ra 3 12 = z := ⟨_, rfl⟩
  have hq_v4 := tk_rng v4
  have hr_v4 : (-1) ≤ v4.toInt ∧ v4.toInt ≤ 7 := by have h9 := hIR.d; unfold dO at h9; rw [hf3] at h9; omega
  refine mz_Vj (As := []) (rest := []) ⟨hx, hb, hml, hown, hts⟩ hK hM hS (k_X13_isDuel l D cy ld ad am hD _ _ _ _ v4 (hIF.weak) hIG hIR hf3) ⟨callB_of 0 hts (wl_in mw_1071) rfl rfl rfl (htl _ mw_5) (htl _ mw_1068) hd_yX13_isDuel ⟨(Nat.le_of_ble_eq_true rfl), (Nat.le_of_ble_eq_true rfl)⟩, htl _ mw_1069, htl _ mw_1070⟩ rfl hl.1 rfl (Nat.le_of_ble_eq_true rfl) dX13_asks_6 ⟨(Nat.le_of_ble_eq_true rfl), (Nat.le_of_ble_eq_true rfl)⟩ (fun v5 H locs hpo hM hS => ?_)
  obtain ⟨hpo6, hpo10, hpo11, hpo12, hpo13, hpo14⟩ := hpo
  have hq_v5 := tk_rng v5
  refine lv_if_eq (tgt := 32) hx hb dX13_asks_9 (by decide) (fun c9 => ?_) (fun c9 => ?_)
  · have hc16 : v5.toInt = 0 := (fi_eq rfl (show (0 : Int32).toInt = 0 by decide)).mp c9
    have hwk_17 : v4.toInt ≤ (-1) := by omega
    refine lv_iconst (v := (-1)) hx hb dX13_asks_32 (by decide) ?_
    have hk_m1 : ((-1) : Int32).toInt = (-1) := by decide
    exact mz_iret (v := (-1)) hx hb hr rfl hlocks ⟨hIF, hIG, hIR, hFF, (fun _ _ => rfl), (fun _ _ => rfl), (by omega), (by omega)⟩ hM hS dX13_asks_33
  · have hc16 : ¬ (v5.toInt = 0) := fun h9 => c9 ((fi_eq rfl (show (0 : Int32).toInt = 0 by decide)).mpr h9)
    have hwk_18 : 0 ≤ v4.toInt := by omega
    refine lv_aload_n hx hb dX13_asks_12 rfl (lv_at hl 0 rfl) ?_
    refine lv_iload_n hx hb dX13_asks_13 rfl (lv_at hl 1 rfl) ?_
    refine mz_Vj (As := [.int p1]) (rest := []) ⟨hx, hb, hml, hown, hts⟩ hK hM hS (k_X13_isVerse l D cy ld ad am hD _ _ _ _ p1 (hIF.weak) hIG hIR) ⟨callB_of 1 hts (wl_in mw_360) rfl rfl rfl (htl _ mw_5) (htl _ mw_357) hd_yX13_isVerse ⟨(Nat.le_of_ble_eq_true rfl), (Nat.le_of_ble_eq_true rfl)⟩, htl _ mw_358, htl _ mw_359⟩ rfl hl.1 rfl (Nat.le_of_ble_eq_true rfl) dX13_asks_14 ⟨(Nat.le_of_ble_eq_true rfl), (Nat.le_of_ble_eq_true rfl)⟩ (fun v19 H locs hpo hM hS => ?_)
    obtain ⟨hpo20, hpo21, hpo22, hpo23, hpo24⟩ := hpo
    have hq_v19 := tk_rng v19
    refine lv_if_eq (tgt := 32) hx hb dX13_asks_17 (by decide) (fun c9 => ?_) (fun c9 => ?_)
    · have hc26 : v19.toInt = 0 := (fi_eq rfl (show (0 : Int32).toInt = 0 by decide)).mp c9
      refine lv_iconst (v := (-1)) hx hb dX13_asks_32 (by decide) ?_
      have hk_m1 : ((-1) : Int32).toInt = (-1) := by decide
      exact mz_iret (v := (-1)) hx hb hr rfl hlocks ⟨hIF, hIG, hIR, hFF, (fun _ _ => rfl), (fun _ _ => rfl), (by omega), (by omega)⟩ hM hS dX13_asks_33
    · have hc26 : ¬ (v19.toInt = 0) := fun h9 => c9 ((fi_eq rfl (show (0 : Int32).toInt = 0 by decide)).mpr h9)
      have hwk_27 : 0 ≤ p1.toInt ∧ p1.toInt ≤ 9 := by omega
      refine lv_iload_n hx hb dX13_asks_20 rfl (lv_at hl 2 rfl) ?_
      obtain ⟨w28, e_w28, h_w28⟩ : ∃ z : Int64, p2.toInt64 = z ∧ z.toInt = p2.toInt := ⟨_, rfl, fl_w _⟩
      refine lv_i2l (v := w28) hx hb dX13_asks_21 e_w28 ?_
      refine lv_lconst (v := 0) hx hb dX13_asks_22 (by decide) ?_
      refine lv_ldc2 hx hb hown (htl _ mw_1122) dX13_asks_23 ?_
      have hk_0 : (0 : Int64).toInt = 0 := by decide
      have hk_2 : (2 : Int64).toInt = 2 := by decide
      refine mz_Sj (As := [.long w28, .long 0, .long 2]) (rest := []) ⟨hx, hb, hml, hown, hts⟩ hK hM hS (k_X13_in l D cy ld ad am hD _ _ _ _ w28 0 2) ⟨callB_of 3 hts (wl_in mw_292) rfl rfl rfl (htl _ mw_5) (htl _ mw_290) hd_yX13_in ⟨(Nat.le_of_ble_eq_true rfl), (Nat.le_of_ble_eq_true rfl)⟩, htl _ mw_291⟩ rfl hl.1 rfl (Nat.le_of_ble_eq_true rfl) dX13_asks_26 ⟨(Nat.le_of_ble_eq_true rfl), (Nat.le_of_ble_eq_true rfl)⟩ (fun v29 H locs hpo hM hS => ?_)
      obtain ⟨hpo30, hpo31, hpo32, hpo33, hpo34, hpo35⟩ := hpo
      have hq_v29 := tk_rng v29
      refine lv_if_ne (tgt := 34) hx hb dX13_asks_29 (by decide) (fun c9 => ?_) (fun c9 => ?_)
      · have hc37 : ¬ (v29.toInt = 0) := fun h9 => c9 ((fi_eq rfl (show (0 : Int32).toInt = 0 by decide)).mpr h9)
        have hwk_38 : 0 ≤ w28.toInt ∧ w28.toInt ≤ 2 := by omega
        refine lv_aload_n hx hb dX13_asks_34 rfl (lv_at hl 0 rfl) ?_
        refine lv_iload_n hx hb dX13_asks_35 rfl (lv_at hl 1 rfl) ?_
        refine mz_Vv (As := [.int p1]) (rest := []) ⟨hx, hb, hml, hown, hts⟩ hK hM hS (k_X13_layVerse l D cy ld ad am hD _ _ _ _ p1 hIF hIG hIR (by omega) (by omega)) ⟨callB_of 1 hts (wl_in mw_1091) rfl rfl rfl (htl _ mw_5) (htl _ mw_1088) hd_yX13_layVerse ⟨(Nat.le_of_ble_eq_true rfl), (Nat.le_of_ble_eq_true rfl)⟩, htl _ mw_1089, htl _ mw_1090⟩ rfl hl.1 rfl (Nat.le_of_ble_eq_true rfl) dX13_asks_36 ⟨(Nat.le_of_ble_eq_true rfl), (Nat.le_of_ble_eq_true rfl)⟩ (fun H locs F G R S hpo hM hS => ?_)
        obtain ⟨hIF, hIG, hIR, hfr9, hrr9, hgr9⟩ := hpo
        have hFF := mz_fr (K := [0, 34, 38]) (Fa := Fa) hfr9 hFF (by decide)
        have hRR := mz_fr (K := []) (Fa := Ra) hrr9 (fun _ _ => rfl) (by decide)
        have hGG := mz_fr (K := [39, 40]) (Fa := Ga) hgr9 (fun _ _ => rfl) (by decide)
        have hf2 := (hfr9 0 (by decide)).trans hf2
        have hf3 : R 3 12 = _ := (congrFun (hrr9 3 (by decide)) 12).trans hf3
        refine lv_iload_n hx hb dX13_asks_39 rfl (lv_at hl 2 rfl) ?_
        refine lv_if_ne (tgt := 50) hx hb dX13_asks_40 (by decide) (fun c9 => ?_) (fun c9 => ?_)
        · have hc40 : ¬ (p2.toInt = 0) := fun h9 => c9 ((fi_eq rfl (show (0 : Int32).toInt = 0 by decide)).mpr h9)
          refine lv_iload_n hx hb dX13_asks_50 rfl (lv_at hl 2 rfl) ?_
          refine lv_iconst (v := 1) hx hb dX13_asks_51 (by decide) ?_
          refine lv_icmp_ne (tgt := 62) hx hb dX13_asks_52 (by decide) (fun c9 => ?_) (fun c9 => ?_)
          · have hc41 : ¬ (p2.toInt = 1) := fun h9 => c9 ((fi_eq rfl (show (1 : Int32).toInt = 1 by decide)).mpr h9)
            refine lv_aload_n hx hb dX13_asks_62 rfl (lv_at hl 0 rfl) ?_
            refine mz_Vi (As := []) (rest := []) ⟨hx, hb, hml, hown, hts⟩ hK hM hS (k_X13_isBarredSet l D cy ld ad am hD _ _ _ _ hIF hIG hIR) ⟨callB_of 0 hts (wl_in mw_1103) rfl rfl rfl (htl _ mw_5) (htl _ mw_1100) hd_yX13_isBarredSet ⟨(Nat.le_of_ble_eq_true rfl), (Nat.le_of_ble_eq_true rfl)⟩, htl _ mw_1101, htl _ mw_1102⟩ rfl hl.1 rfl (Nat.le_of_ble_eq_true rfl) dX13_asks_63 ⟨(Nat.le_of_ble_eq_true rfl), (Nat.le_of_ble_eq_true rfl)⟩ (fun v42 H locs F G R S hpo hM hS => ?_)
            obtain ⟨hIF, hIG, hIR, hfr9, hrr9, hgr9, hpo43, hpo44, hpo45, hpo46⟩ := hpo
            have hq_v42 := tk_rng v42
            have hFF := mz_fr (K := [0, 34, 38]) (Fa := Fa) hfr9 hFF (by decide)
            have hRR := mz_fr (K := []) (Fa := Ra) hrr9 hRR (by decide)
            have hGG := mz_fr (K := [39, 40]) (Fa := Ga) hgr9 hGG (by decide)
            have hf2 := (hfr9 0 (by decide)).trans hf2
            have hf3 : R 3 12 = _ := (congrFun (hrr9 3 (by decide)) 12).trans hf3
            refine lv_if_eq (tgt := 73) hx hb dX13_asks_66 (by decide) (fun c9 => ?_) (fun c9 => ?_)
            · have hc48 : v42.toInt = 0 := (fi_eq rfl (show (0 : Int32).toInt = 0 by decide)).mp c9
              refine lv_iconst (v := 0) hx hb dX13_asks_73 (by decide) ?_
              have hk_0 : (0 : Int32).toInt = 0 := by decide
              exact mz_iret (v := 0) hx hb hr rfl hlocks ⟨hIF, hIG, hIR, hFF, hRR, hGG, (by omega), (by omega)⟩ hM hS dX13_asks_74
            · have hc48 : ¬ (v42.toInt = 0) := fun h9 => c9 ((fi_eq rfl (show (0 : Int32).toInt = 0 by decide)).mpr h9)
              refine lv_iconst (v := 1) hx hb dX13_asks_69 (by decide) ?_
              refine lv_goto (tgt := 74) hx hb dX13_asks_70 (by decide) ?_
              have hk_1 : (1 : Int32).toInt = 1 := by decide
              exact mz_iret (v := 1) hx hb hr rfl hlocks ⟨hIF, hIG, hIR, hFF, hRR, hGG, (by omega), (by omega)⟩ hM hS dX13_asks_74
          · have hc41 : p2.toInt = 1 := (fi_eq rfl (show (1 : Int32).toInt = 1 by decide)).mp c9
            refine lv_aload_n hx hb dX13_asks_55 rfl (lv_at hl 0 rfl) ?_
            refine mz_Vi (As := []) (rest := []) ⟨hx, hb, hml, hown, hts⟩ hK hM hS (k_X13_tiresSet l D cy ld ad am hD _ _ _ _ hIF hIG hIR) ⟨callB_of 0 hts (wl_in mw_1129) rfl rfl rfl (htl _ mw_5) (htl _ mw_1126) hd_yX13_tiresSet ⟨(Nat.le_of_ble_eq_true rfl), (Nat.le_of_ble_eq_true rfl)⟩, htl _ mw_1127, htl _ mw_1128⟩ rfl hl.1 rfl (Nat.le_of_ble_eq_true rfl) dX13_asks_56 ⟨(Nat.le_of_ble_eq_true rfl), (Nat.le_of_ble_eq_true rfl)⟩ (fun v49 H locs F G R S hpo hM hS => ?_)
            obtain ⟨hIF, hIG, hIR, hfr9, hrr9, hgr9, hpo50, hpo51⟩ := hpo
            have hq_v49 := tk_rng v49
            have hFF := mz_fr (K := [0, 34, 38]) (Fa := Fa) hfr9 hFF (by decide)
            have hRR := mz_fr (K := []) (Fa := Ra) hrr9 hRR (by decide)
            have hGG := mz_fr (K := [39, 40]) (Fa := Ga) hgr9 hGG (by decide)
            have hf2 := (hfr9 0 (by decide)).trans hf2
            have hf3 : R 3 12 = _ := (congrFun (hrr9 3 (by decide)) 12).trans hf3
            refine lv_goto (tgt := 74) hx hb dX13_asks_59 (by decide) ?_
            exact mz_iret (v := v49) hx hb hr rfl hlocks ⟨hIF, hIG, hIR, hFF, hRR, hGG, (by omega), (by omega)⟩ hM hS dX13_asks_74
        · have hc40 : p2.toInt = 0 := (fi_eq rfl (show (0 : Int32).toInt = 0 by decide)).mp c9
          refine lv_aload_n hx hb dX13_asks_43 rfl (lv_at hl 0 rfl) ?_
          refine mz_Vi (As := []) (rest := []) ⟨hx, hb, hml, hown, hts⟩ hK hM hS (k_X13_lullsSet l D cy ld ad am hD _ _ _ _ hIF hIG hIR) ⟨callB_of 0 hts (wl_in mw_1121) rfl rfl rfl (htl _ mw_5) (htl _ mw_1118) hd_yX13_lullsSet ⟨(Nat.le_of_ble_eq_true rfl), (Nat.le_of_ble_eq_true rfl)⟩, htl _ mw_1119, htl _ mw_1120⟩ rfl hl.1 rfl (Nat.le_of_ble_eq_true rfl) dX13_asks_44 ⟨(Nat.le_of_ble_eq_true rfl), (Nat.le_of_ble_eq_true rfl)⟩ (fun v53 H locs F G R S hpo hM hS => ?_)
          obtain ⟨hIF, hIG, hIR, hfr9, hrr9, hgr9, hpo54, hpo55⟩ := hpo
          have hq_v53 := tk_rng v53
          have hFF := mz_fr (K := [0, 34, 38]) (Fa := Fa) hfr9 hFF (by decide)
          have hRR := mz_fr (K := []) (Fa := Ra) hrr9 hRR (by decide)
          have hGG := mz_fr (K := [39, 40]) (Fa := Ga) hgr9 hGG (by decide)
          have hf2 := (hfr9 0 (by decide)).trans hf2
          have hf3 : R 3 12 = _ := (congrFun (hrr9 3 (by decide)) 12).trans hf3
          refine lv_goto (tgt := 74) hx hb dX13_asks_47 (by decide) ?_
          exact mz_iret (v := v53) hx hb hr rfl hlocks ⟨hIF, hIG, hIR, hFF, hRR, hGG, (by omega), (by omega)⟩ hM hS dX13_asks_74
      · have hc37 : v29.toInt = 0 := (fi_eq rfl (show (0 : Int32).toInt = 0 by decide)).mp c9
        refine lv_iconst (v := (-1)) hx hb dX13_asks_32 (by decide) ?_
        have hk_m1 : ((-1) : Int32).toInt = (-1) := by decide
        exact mz_iret (v := (-1)) hx hb hr rfl hlocks ⟨hIF, hIG, hIR, hFF, (fun _ _ => rfl), (fun _ _ => rfl), (by omega), (by omega)⟩ hM hS dX13_asks_33
