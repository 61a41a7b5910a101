section
theorem dX13_hears_0 : decode cX13_hears 0 = .ok (.aload_n 0, 1) := by decide +kernel
theorem dX13_hears_1 : decode cX13_hears 1 = .ok (.iconst 0, 1) := by decide +kernel
theorem dX13_hears_2 : decode cX13_hears 2 = .ok (.putfield 170, 3) := by decide +kernel
theorem dX13_hears_5 : decode cX13_hears 5 = .ok (.iload_n 1, 1) := by decide +kernel
theorem dX13_hears_6 : decode cX13_hears 6 = .ok (.iload_n 2, 1) := by decide +kernel
theorem dX13_hears_7 : decode cX13_hears 7 = .ok (.if_icmp .eq 13, 3) := by decide +kernel
theorem dX13_hears_20 : decode cX13_hears 20 = .ok (.aload_n 0, 1) := by decide +kernel
theorem dX13_hears_21 : decode cX13_hears 21 = .ok (.iconst (-1), 1) := by decide +kernel
theorem dX13_hears_22 : decode cX13_hears 22 = .ok (.invokevirtual 183, 3) := by decide +kernel
theorem dX13_hears_25 : decode cX13_hears 25 = .ok (.ireturn, 1) := by decide +kernel
theorem dX13_hears_10 : decode cX13_hears 10 = .ok (.iload_n 3, 1) := by decide +kernel
theorem dX13_hears_11 : decode cX13_hears 11 = .ok (.i2l, 1) := by decide +kernel
theorem dX13_hears_12 : decode cX13_hears 12 = .ok (.lconst 0, 1) := by decide +kernel
theorem dX13_hears_13 : decode cX13_hears 13 = .ok (.lconst 1, 1) := by decide +kernel
theorem dX13_hears_14 : decode cX13_hears 14 = .ok (.invokestatic 190, 3) := by decide +kernel
theorem dX13_hears_17 : decode cX13_hears 17 = .ok (.ifCond .ne 9, 3) := by decide +kernel
theorem dX13_hears_26 : decode cX13_hears 26 = .ok (.aload_n 0, 1) := by decide +kernel
theorem dX13_hears_27 : decode cX13_hears 27 = .ok (.iload_n 1, 1) := by decide +kernel
theorem dX13_hears_28 : decode cX13_hears 28 = .ok (.invokevirtual 201, 3) := by decide +kernel
theorem dX13_hears_31 : decode cX13_hears 31 = .ok (.ifCond .eq 11, 3) := by decide +kernel
theorem dX13_hears_42 : decode cX13_hears 42 = .ok (.aload_n 0, 1) := by decide +kernel
theorem dX13_hears_43 : decode cX13_hears 43 = .ok (.bipush (-2), 2) := by decide +kernel
theorem dX13_hears_45 : decode cX13_hears 45 = .ok (.invokevirtual 183, 3) := by decide +kernel
theorem dX13_hears_48 : decode cX13_hears 48 = .ok (.ireturn, 1) := by decide +kernel
theorem dX13_hears_34 : decode cX13_hears 34 = .ok (.aload_n 0, 1) := by decide +kernel
theorem dX13_hears_35 : decode cX13_hears 35 = .ok (.iload_n 2, 1) := by decide +kernel
theorem dX13_hears_36 : decode cX13_hears 36 = .ok (.invokevirtual 201, 3) := by decide +kernel
theorem dX13_hears_39 : decode cX13_hears 39 = .ok (.ifCond .ne 10, 3) := by decide +kernel
theorem dX13_hears_49 : decode cX13_hears 49 = .ok (.aload_n 0, 1) := by decide +kernel
theorem dX13_hears_50 : decode cX13_hears 50 = .ok (.getfield 13, 3) := by decide +kernel
theorem dX13_hears_53 : decode cX13_hears 53 = .ok (.bipush 108, 2) := by decide +kernel
theorem dX13_hears_55 : decode cX13_hears 55 = .ok (.iload_n 1, 1) := by decide +kernel
theorem dX13_hears_56 : decode cX13_hears 56 = .ok (.iadd, 1) := by decide +kernel
theorem dX13_hears_57 : decode cX13_hears 57 = .ok (.iaload, 1) := by decide +kernel
theorem dX13_hears_58 : decode cX13_hears 58 = .ok (.iload_n 2, 1) := by decide +kernel
theorem dX13_hears_59 : decode cX13_hears 59 = .ok (.ishr, 1) := by decide +kernel
theorem dX13_hears_60 : decode cX13_hears 60 = .ok (.iconst 1, 1) := by decide +kernel
theorem dX13_hears_61 : decode cX13_hears 61 = .ok (.iand, 1) := by decide +kernel
theorem dX13_hears_62 : decode cX13_hears 62 = .ok (.istore 4, 2) := by decide +kernel
theorem dX13_hears_64 : decode cX13_hears 64 = .ok (.aload_n 0, 1) := by decide +kernel
theorem dX13_hears_65 : decode cX13_hears 65 = .ok (.getfield 13, 3) := by decide +kernel
theorem dX13_hears_68 : decode cX13_hears 68 = .ok (.bipush 108, 2) := by decide +kernel
theorem dX13_hears_70 : decode cX13_hears 70 = .ok (.iload_n 1, 1) := by decide +kernel
theorem dX13_hears_71 : decode cX13_hears 71 = .ok (.iadd, 1) := by decide +kernel
theorem dX13_hears_72 : decode cX13_hears 72 = .ok (.dup2, 1) := by decide +kernel
theorem dX13_hears_73 : decode cX13_hears 73 = .ok (.iaload, 1) := by decide +kernel
theorem dX13_hears_74 : decode cX13_hears 74 = .ok (.iload_n 3, 1) := by decide +kernel
theorem dX13_hears_75 : decode cX13_hears 75 = .ok (.iload 4, 2) := by decide +kernel
theorem dX13_hears_99 : decode cX13_hears 99 = .ok (.iadd, 1) := by decide +kernel
theorem dX13_hears_100 : decode cX13_hears 100 = .ok (.iastore, 1) := by decide +kernel
theorem dX13_hears_101 : decode cX13_hears 101 = .ok (.aload_n 0, 1) := by decide +kernel
theorem dX13_hears_102 : decode cX13_hears 102 = .ok (.iconst 0, 1) := by decide +kernel
theorem dX13_hears_103 : decode cX13_hears 103 = .ok (.putfield 173, 3) := by decide +kernel
theorem dX13_hears_106 : decode cX13_hears 106 = .ok (.iload 4, 2) := by decide +kernel
theorem dX13_hears_108 : decode cX13_hears 108 = .ok (.ireturn, 1) := by decide +kernel
theorem dX13_hears_77 : decode cX13_hears 77 = .ok (.if_icmp .ne 7, 3) := by decide +kernel
theorem dX13_hears_84 : decode cX13_hears 84 = .ok (.iload_n 3, 1) := by decide +kernel
theorem dX13_hears_85 : decode cX13_hears 85 = .ok (.iconst 1, 1) := by decide +kernel
theorem dX13_hears_86 : decode cX13_hears 86 = .ok (.if_icmp .ne 9, 3) := by decide +kernel
theorem dX13_hears_95 : decode cX13_hears 95 = .ok (.iconst 1, 1) := by decide +kernel
theorem dX13_hears_96 : decode cX13_hears 96 = .ok (.iload_n 2, 1) := by decide +kernel
theorem dX13_hears_97 : decode cX13_hears 97 = .ok (.ishl, 1) := by decide +kernel
theorem dX13_hears_98 : decode cX13_hears 98 = .ok (.ineg, 1) := by decide +kernel
theorem dX13_hears_89 : decode cX13_hears 89 = .ok (.iconst 1, 1) := by decide +kernel
theorem dX13_hears_90 : decode cX13_hears 90 = .ok (.iload_n 2, 1) := by decide +kernel
theorem dX13_hears_91 : decode cX13_hears 91 = .ok (.ishl, 1) := by decide +kernel
theorem dX13_hears_92 : decode cX13_hears 92 = .ok (.goto 7, 3) := by decide +kernel
theorem dX13_hears_80 : decode cX13_hears 80 = .ok (.iconst 0, 1) := by decide +kernel
theorem dX13_hears_81 : decode cX13_hears 81 = .ok (.goto 18, 3) := by decide +kernel
end
section
theorem hd_yX13_change : yX13_change.cls ≠ "java/lang/invoke/MethodHandle" ∧ yX13_change.cls ≠ "java/lang/invoke/VarHandle" ∧ (parseMethodDescriptor yX13_change.desc).map (fun d => d.parameters.length) = some 2 := by decide +kernel
theorem dX13_cows_0 : decode cX13_cows 0 = .ok (.aload_n 0, 1) := by decide +kernel
theorem dX13_cows_1 : decode cX13_cows 1 = .ok (.iconst 0, 1) := by decide +kernel
theorem dX13_cows_2 : decode cX13_cows 2 = .ok (.putfield 170, 3) := by decide +kernel
theorem dX13_cows_5 : decode cX13_cows 5 = .ok (.iload_n 1, 1) := by decide +kernel
theorem dX13_cows_6 : decode cX13_cows 6 = .ok (.i2l, 1) := by decide +kernel
theorem dX13_cows_7 : decode cX13_cows 7 = .ok (.lconst 0, 1) := by decide +kernel
theorem dX13_cows_8 : decode cX13_cows 8 = .ok (.lconst 1, 1) := by decide +kernel
theorem dX13_cows_9 : decode cX13_cows 9 = .ok (.invokestatic 190, 3) := by decide +kernel
theorem dX13_cows_12 : decode cX13_cows 12 = .ok (.ifCond .eq 15, 3) := by decide +kernel
theorem dX13_cows_27 : decode cX13_cows 27 = .ok (.aload_n 0, 1) := by decide +kernel
theorem dX13_cows_28 : decode cX13_cows 28 = .ok (.iconst (-1), 1) := by decide +kernel
theorem dX13_cows_29 : decode cX13_cows 29 = .ok (.invokevirtual 183, 3) := by decide +kernel
theorem dX13_cows_32 : decode cX13_cows 32 = .ok (.ireturn, 1) := by decide +kernel
theorem dX13_cows_15 : decode cX13_cows 15 = .ok (.iload_n 2, 1) := by decide +kernel
theorem dX13_cows_16 : decode cX13_cows 16 = .ok (.i2l, 1) := by decide +kernel
theorem dX13_cows_17 : decode cX13_cows 17 = .ok (.lconst 0, 1) := by decide +kernel
theorem dX13_cows_18 : decode cX13_cows 18 = .ok (.ldc2_w 219, 3) := by decide +kernel
theorem dX13_cows_21 : decode cX13_cows 21 = .ok (.invokestatic 190, 3) := by decide +kernel
theorem dX13_cows_24 : decode cX13_cows 24 = .ok (.ifCond .ne 9, 3) := by decide +kernel
theorem dX13_cows_33 : decode cX13_cows 33 = .ok (.aload_n 0, 1) := by decide +kernel
theorem dX13_cows_34 : decode cX13_cows 34 = .ok (.iconst 0, 1) := by decide +kernel
theorem dX13_cows_35 : decode cX13_cows 35 = .ok (.putfield 176, 3) := by decide +kernel
theorem dX13_cows_38 : decode cX13_cows 38 = .ok (.aload_n 0, 1) := by decide +kernel
theorem dX13_cows_39 : decode cX13_cows 39 = .ok (.bipush 10, 2) := by decide +kernel
theorem dX13_cows_41 : decode cX13_cows 41 = .ok (.iload_n 1, 1) := by decide +kernel
theorem dX13_cows_42 : decode cX13_cows 42 = .ok (.iadd, 1) := by decide +kernel
theorem dX13_cows_43 : decode cX13_cows 43 = .ok (.iload_n 2, 1) := by decide +kernel
theorem dX13_cows_44 : decode cX13_cows 44 = .ok (.invokevirtual 221, 3) := by decide +kernel
theorem dX13_cows_47 : decode cX13_cows 47 = .ok (.ireturn, 1) := by decide +kernel
set_option maxHeartbeats 4000000 in
set_option maxRecDepth 100000 in
theorem k_X13_cows (l : Launch) (D : va_G) (cy : Nat → ClassId) (ld ad : Nat → Nat) (am : Nat) (hD : mz_D ad am) (Fa : Nat → Int32) (Ga : Nat → Int64) (Ra : Nat → Nat → Int32) (Sa : Nat → Nat → Int64) (p1 : Int32) (p2 : Int32) (hIF : mz_IF true Fa) (hIG : mz_IG Ga) (hIR : mz_IR [] true Ra) : Met l yX13_cows (wl yX13_cows cX13_cows 3 (some .int)) ({ frames := 4, cells := 0, slots := 0, locals := 210 }) (mz_p D cy ld ad am Fa Ga Ra Sa [.ref am, .int p1, .int p2]) (mz_i D cy ad am (fun r F G R S => mz_IF true F ∧ mz_IG G ∧ mz_IR [] true R ∧ (∀ k : Nat, k ∉ ([0, 1, 8] : List Nat) → F k = Fa k) ∧ (∀ k : Nat, k ∉ ([2, 3] : List Nat) → R k = Ra k) ∧ (∀ k : Nat, k ∉ ([] : List Nat) → G k = Ga k) ∧ rK3 (Ra 3) (R 3))) 0 0 (mz_W ad am) := by
  refine mz_met (y := yX13_cows) (cc := cX13_cows) (maxL := 3) (ret := (some .int)) (av := [.ref am, .int p1, .int p2]) _ (by decide) (Nat.le_of_ble_eq_true rfl) ?_
  intro p e s m args below meth c hx hb hr hml hts htl hown hlocks hK H locs hM hS ls hl
  have hown : s.vm.findClass RX13 = some m.cls := hown
  have hl : lv_has ls 3 [(0, .ref am), (1, .int p1), (2, .int p2)] := hl
  have hr_p1 := tk_rng p1
  have hr_p2 := tk_rng p2
  refine lv_aload_n hx hb dX13_cows_0 rfl (lv_at hl 0 rfl) ?_
  refine lv_iconst (v := 0) hx hb dX13_cows_1 (by decide) ?_
  have hk_0 : (0 : Int32).toInt = 0 := by decide
  refine mz_putI (ty := .int) (x := 0) hx hb htl hown hK hD hM hS 0 (Nat.le_of_ble_eq_true rfl) rfl (htl _ mw_286) (fun _ h9 => h9) rfl (tyX13_ok 0 (by decide)) rfl rfl dX13_cows_2 (fun H locs F hM hS hf9 hj9 => ?_)
  have hIF := hIF.put hf9 hj9 (tk_rng _).1 (tk_rng _).2 (by decide)
  have hFF := mz_frp (K := [0, 1, 8]) (Fa := Fa) hj9 (fun _ _ => rfl) (by decide)
  have hf2 := hf9
  refine lv_iload_n hx hb dX13_cows_5 rfl (lv_at hl 1 rfl) ?_
  obtain ⟨w3, e_w3, h_w3⟩ : ∃ z : Int64, p1.toInt64 = z ∧ z.toInt = p1.toInt := ⟨_, rfl, fl_w _⟩
  refine lv_i2l (v := w3) hx hb dX13_cows_6 e_w3 ?_
  refine lv_lconst (v := 0) hx hb dX13_cows_7 (by decide) ?_
  refine lv_lconst (v := 1) hx hb dX13_cows_8 (by decide) ?_
  have hk_0 : (0 : Int64).toInt = 0 := by decide
  have hk_1 : (1 : Int64).toInt = 1 := by decide
  refine mz_Sj (As := [.long w3, .long 0, .long 1]) (rest := []) ⟨hx, hb, hml, hown, hts⟩ hK hM hS (k_X13_in l D cy ld ad am hD _ _ _ _ w3 0 1) ⟨callB_of 3 hts (wl_in mw_292) rfl rfl rfl (htl _ mw_5) (htl _ mw_290) hd_yX13_in ⟨(Nat.le_of_ble_eq_true rfl), (Nat.le_of_ble_eq_true rfl)⟩, htl _ mw_291⟩ rfl hl.1 rfl (Nat.le_of_ble_eq_true rfl) dX13_cows_9 ⟨(Nat.le_of_ble_eq_true rfl), (Nat.le_of_ble_eq_true rfl)⟩ (fun v4 H locs hpo hM hS => ?_)
  obtain ⟨hpo5, hpo6, hpo10, hpo11, hpo12, hpo13⟩ := hpo
  have hq_v4 := tk_rng v4
  refine lv_if_eq (tgt := 27) hx hb dX13_cows_12 (by decide) (fun c9 => ?_) (fun c9 => ?_)
  · have hc15 : v4.toInt = 0 := (fi_eq rfl (show (0 : Int32).toInt = 0 by decide)).mp c9
    refine lv_aload_n hx hb dX13_cows_27 rfl (lv_at hl 0 rfl) ?_
    refine lv_iconst (v := (-1)) hx hb dX13_cows_28 (by decide) ?_
    have hk_m1 : ((-1) : Int32).toInt = (-1) := by decide
    refine mz_Vi (As := [.int (-1)]) (rest := []) ⟨hx, hb, hml, hown, hts⟩ hK hM hS (k_X13_tell l D cy ld ad am hD _ _ _ _ (-1) hIF hIG hIR (by omega) (by omega)) ⟨callB_of 1 hts (wl_in mw_296) rfl rfl rfl (htl _ mw_5) (htl _ mw_293) hd_yX13_tell ⟨(Nat.le_of_ble_eq_true rfl), (Nat.le_of_ble_eq_true rfl)⟩, htl _ mw_294, htl _ mw_295⟩ rfl hl.1 rfl (Nat.le_of_ble_eq_true rfl) dX13_cows_29 ⟨(Nat.le_of_ble_eq_true rfl), (Nat.le_of_ble_eq_true rfl)⟩ (fun v16 H locs F G R S hpo hM hS => ?_)
    obtain ⟨hIF, hIG, hIR, hfr9, hrr9, hgr9, hpo17⟩ := hpo
    have hq_v16 := tk_rng v16
    have hFF := mz_fr (K := [0, 1, 8]) (Fa := Fa) hfr9 hFF (by decide)
    have hRR := mz_fr (K := [2, 3]) (Fa := Ra) hrr9 (fun _ _ => rfl) (by decide)
    have hGG := mz_fr (K := []) (Fa := Ga) hgr9 (fun _ _ => rfl) (by decide)
    have hrel : rK3 (Ra 3) (R 3) := (rK3.refl rfl).trans (rK3.refl (hrr9 3 (by decide)))
    have hf2 := (hfr9 0 (by decide)).trans hf2
    exact mz_iret (v := v16) hx hb hr rfl hlocks ⟨hIF, hIG, hIR, hFF, hRR, hGG, hrel⟩ hM hS dX13_cows_32
  · have hc15 : ¬ (v4.toInt = 0) := fun h9 => c9 ((fi_eq rfl (show (0 : Int32).toInt = 0 by decide)).mpr h9)
    have hwk_19 : 0 ≤ w3.toInt ∧ w3.toInt ≤ 1 := by omega
    refine lv_iload_n hx hb dX13_cows_15 rfl (lv_at hl 2 rfl) ?_
    obtain ⟨w20, e_w20, h_w20⟩ : ∃ z : Int64, p2.toInt64 = z ∧ z.toInt = p2.toInt := ⟨_, rfl, fl_w _⟩
    refine lv_i2l (v := w20) hx hb dX13_cows_16 e_w20 ?_
    refine lv_lconst (v := 0) hx hb dX13_cows_17 (by decide) ?_
    refine lv_ldc2 hx hb hown (htl _ mw_395) dX13_cows_18 ?_
    have hk_0 : (0 : Int64).toInt = 0 := by decide
    have hk_9999 : (9999 : Int64).toInt = 9999 := by decide
    refine mz_Sj (As := [.long w20, .long 0, .long 9999]) (rest := []) ⟨hx, hb, hml, hown, hts⟩ hK hM hS (k_X13_in l D cy ld ad am hD _ _ _ _ w20 0 9999) ⟨callB_of 3 hts (wl_in mw_292) rfl rfl rfl (htl _ mw_5) (htl _ mw_290) hd_yX13_in ⟨(Nat.le_of_ble_eq_true rfl), (Nat.le_of_ble_eq_true rfl)⟩, htl _ mw_291⟩ rfl hl.1 rfl (Nat.le_of_ble_eq_true rfl) dX13_cows_21 ⟨(Nat.le_of_ble_eq_true rfl), (Nat.le_of_ble_eq_true rfl)⟩ (fun v21 H locs hpo hM hS => ?_)
    obtain ⟨hpo22, hpo23, hpo24, hpo25, hpo26, hpo27⟩ := hpo
    have hq_v21 := tk_rng v21
    refine lv_if_ne (tgt := 33) hx hb dX13_cows_24 (by decide) (fun c9 => ?_) (fun c9 => ?_)
    · have hc29 : ¬ (v21.toInt = 0) := fun h9 => c9 ((fi_eq rfl (show (0 : Int32).toInt = 0 by decide)).mpr h9)
      have hwk_30 : 0 ≤ w20.toInt ∧ w20.toInt ≤ 9999 := by omega
      refine lv_aload_n hx hb dX13_cows_33 rfl (lv_at hl 0 rfl) ?_
      refine lv_iconst (v := 0) hx hb dX13_cows_34 (by decide) ?_
      have hk_0 : (0 : Int32).toInt = 0 := by decide
      have hk_0 : (0 : Int32).toInt = 0 := by decide
      refine mz_putI (ty := .int) (x := 0) hx hb htl hown hK hD hM hS 8 (Nat.le_of_ble_eq_true rfl) rfl (htl _ mw_289) (fun _ h9 => h9) rfl (tyX13_ok 8 (by decide)) rfl rfl dX13_cows_35 (fun H locs F hM hS hf9 hj9 => ?_)
      have hIF := hIF.put hf9 hj9 (show 0 ≤ (0 : Int32).toInt by omega) (show (0 : Int32).toInt ≤ 16 by omega) (by decide)
      have hFF := mz_frp (K := [0, 1, 8]) (Fa := Fa) hj9 hFF (by decide)
      have hf2 := (hj9 0 (by decide)).trans hf2
      have hf32 := hf9
      refine lv_aload_n hx hb dX13_cows_38 rfl (lv_at hl 0 rfl) ?_
      refine lv_bipush (v := 10) hx hb dX13_cows_39 (by decide) ?_
      refine lv_iload_n hx hb dX13_cows_41 rfl (lv_at hl 1 rfl) ?_
      refine lv_iadd hx hb dX13_cows_42 ?_
      refine tk_add (show (10 : Int32).toInt = 10 by decide) rfl (by omega) (by omega) (fun v33 h_v33 => ?_)
      refine lv_iload_n hx hb dX13_cows_43 rfl (lv_at hl 2 rfl) ?_
      refine mz_Vi (As := [.int v33, .int p2]) (rest := []) ⟨hx, hb, hml, hown, hts⟩ hK hM hS (k_X13_change l D cy ld ad am hD _ _ _ _ v33 p2 hIF hIG hIR (by omega) (by omega) (by omega)) ⟨callB_of 2 hts (wl_in mw_399) rfl rfl rfl (htl _ mw_5) (htl _ mw_396) hd_yX13_change ⟨(Nat.le_of_ble_eq_true rfl), (Nat.le_of_ble_eq_true rfl)⟩, htl _ mw_397, htl _ mw_398⟩ rfl hl.1 rfl (Nat.le_of_ble_eq_true rfl) dX13_cows_44 ⟨(Nat.le_of_ble_eq_true rfl), (Nat.le_of_ble_eq_true rfl)⟩ (fun v34 H locs F G R S hpo hM hS => ?_)
      obtain ⟨hIF, hIG, hIR, hfr9, hrr9, hgr9, hrel9⟩ := hpo
      have hq_v34 := tk_rng v34
      have hFF := mz_fr (K := [0, 1, 8]) (Fa := Fa) hfr9 hFF (by decide)
      have hRR := mz_fr (K := [2, 3]) (Fa := Ra) hrr9 (fun _ _ => rfl) (by decide)
      have hGG := mz_fr (K := []) (Fa := Ga) hgr9 (fun _ _ => rfl) (by decide)
      have hrel := (rK3.refl rfl).trans hrel9
      have hf2 := (hfr9 0 (by decide)).trans hf2
      have hf32 := (hfr9 8 (by decide)).trans hf32
      exact mz_iret (v := v34) hx hb hr rfl hlocks ⟨hIF, hIG, hIR, hFF, hRR, hGG, hrel⟩ hM hS dX13_cows_47
    · have hc29 : v21.toInt = 0 := (fi_eq rfl (show (0 : Int32).toInt = 0 by decide)).mp c9
      refine lv_aload_n hx hb dX13_cows_27 rfl (lv_at hl 0 rfl) ?_
      refine lv_iconst (v := (-1)) hx hb dX13_cows_28 (by decide) ?_
      have hk_m1 : ((-1) : Int32).toInt = (-1) := by decide
      refine mz_Vi (As := [.int (-1)]) (rest := []) ⟨hx, hb, hml, hown, hts⟩ hK hM hS (k_X13_tell l D cy ld ad am hD _ _ _ _ (-1) hIF hIG hIR (by omega) (by omega)) ⟨callB_of 1 hts (wl_in mw_296) rfl rfl rfl (htl _ mw_5) (htl _ mw_293) hd_yX13_tell ⟨(Nat.le_of_ble_eq_true rfl), (Nat.le_of_ble_eq_true rfl)⟩, htl _ mw_294, htl _ mw_295⟩ rfl hl.1 rfl (Nat.le_of_ble_eq_true rfl) dX13_cows_29 ⟨(Nat.le_of_ble_eq_true rfl), (Nat.le_of_ble_eq_true rfl)⟩ (fun v36 H locs F G R S hpo hM hS => ?_)
      obtain ⟨hIF, hIG, hIR, hfr9, hrr9, hgr9, hpo37⟩ := hpo
      have hq_v36 := tk_rng v36
      have hFF := mz_fr (K := [0, 1, 8]) (Fa := Fa) hfr9 hFF (by decide)
      have hRR := mz_fr (K := [2, 3]) (Fa := Ra) hrr9 (fun _ _ => rfl) (by decide)
      have hGG := mz_fr (K := []) (Fa := Ga) hgr9 (fun _ _ => rfl) (by decide)
      have hrel : rK3 (Ra 3) (R 3) := (rK3.refl rfl).trans (rK3.refl (hrr9 3 (by decide)))
      have hf2 := (hfr9 0 (by decide)).trans hf2
      exact mz_iret (v := v36) hx hb hr rfl hlocks ⟨hIF, hIG, hIR, hFF, hRR, hGG, hrel⟩ hM hS dX13_cows_32
end
