section
theorem hd_yX13_findChampions : yX13_findChampions.cls ≠ "java/lang/invoke/MethodHandle" ∧ yX13_findChampions.cls ≠ "java/lang/invoke/VarHandle" ∧ (parseMethodDescriptor yX13_findChampions.desc).map (fun d => d.parameters.length) = some 0 := by decide +kernel
theorem dX13_champions_0 : decode cX13_champions 0 = .ok (.aload_n 0, 1) := by decide +kernel
theorem dX13_champions_1 : decode cX13_champions 1 = .ok (.iconst 0, 1) := by decide +kernel
theorem dX13_champions_2 : decode cX13_champions 2 = .ok (.putfield 170, 3) := by decide +kernel
theorem dX13_champions_5 : decode cX13_champions 5 = .ok (.iload_n 1, 1) := by decide +kernel
theorem dX13_champions_6 : decode cX13_champions 6 = .ok (.ifCond .lt 29, 3) := by decide +kernel
theorem dX13_champions_35 : decode cX13_champions 35 = .ok (.iconst (-1), 1) := by decide +kernel
theorem dX13_champions_36 : decode cX13_champions 36 = .ok (.ireturn, 1) := by decide +kernel
theorem dX13_champions_9 : decode cX13_champions 9 = .ok (.iload_n 1, 1) := by decide +kernel
theorem dX13_champions_10 : decode cX13_champions 10 = .ok (.iconst 1, 1) := by decide +kernel
theorem dX13_champions_11 : decode cX13_champions 11 = .ok (.if_icmp .le 26, 3) := by decide +kernel
theorem dX13_champions_37 : decode cX13_champions 37 = .ok (.aload_n 0, 1) := by decide +kernel
theorem dX13_champions_38 : decode cX13_champions 38 = .ok (.invokevirtual 551, 3) := by decide +kernel
theorem dX13_champions_41 : decode cX13_champions 41 = .ok (.istore_n 2, 1) := by decide +kernel
theorem dX13_champions_42 : decode cX13_champions 42 = .ok (.iload_n 1, 1) := by decide +kernel
theorem dX13_champions_43 : decode cX13_champions 43 = .ok (.iconst 2, 1) := by decide +kernel
theorem dX13_champions_44 : decode cX13_champions 44 = .ok (.if_icmp .ge 19, 3) := by decide +kernel
theorem dX13_champions_47 : decode cX13_champions 47 = .ok (.iload_n 1, 1) := by decide +kernel
theorem dX13_champions_48 : decode cX13_champions 48 = .ok (.ifCond .ne 10, 3) := by decide +kernel
theorem dX13_champions_58 : decode cX13_champions 58 = .ok (.aload_n 0, 1) := by decide +kernel
theorem dX13_champions_59 : decode cX13_champions 59 = .ok (.getfield 542, 3) := by decide +kernel
theorem dX13_champions_62 : decode cX13_champions 62 = .ok (.ireturn, 1) := by decide +kernel
theorem dX13_champions_51 : decode cX13_champions 51 = .ok (.aload_n 0, 1) := by decide +kernel
theorem dX13_champions_52 : decode cX13_champions 52 = .ok (.getfield 539, 3) := by decide +kernel
theorem dX13_champions_55 : decode cX13_champions 55 = .ok (.goto 7, 3) := by decide +kernel
theorem dX13_champions_14 : decode cX13_champions 14 = .ok (.aload_n 0, 1) := by decide +kernel
theorem dX13_champions_15 : decode cX13_champions 15 = .ok (.iload_n 1, 1) := by decide +kernel
theorem dX13_champions_16 : decode cX13_champions 16 = .ok (.iconst 2, 1) := by decide +kernel
theorem dX13_champions_17 : decode cX13_champions 17 = .ok (.isub, 1) := by decide +kernel
theorem dX13_champions_18 : decode cX13_champions 18 = .ok (.invokevirtual 201, 3) := by decide +kernel
theorem dX13_champions_21 : decode cX13_champions 21 = .ok (.ifCond .eq 14, 3) := by decide +kernel
theorem dX13_champions_24 : decode cX13_champions 24 = .ok (.aload_n 0, 1) := by decide +kernel
theorem dX13_champions_25 : decode cX13_champions 25 = .ok (.iload_n 1, 1) := by decide +kernel
theorem dX13_champions_26 : decode cX13_champions 26 = .ok (.iconst 2, 1) := by decide +kernel
theorem dX13_champions_27 : decode cX13_champions 27 = .ok (.isub, 1) := by decide +kernel
theorem dX13_champions_28 : decode cX13_champions 28 = .ok (.iconst 2, 1) := by decide +kernel
theorem dX13_champions_29 : decode cX13_champions 29 = .ok (.invokevirtual 207, 3) := by decide +kernel
theorem dX13_champions_32 : decode cX13_champions 32 = .ok (.ifCond .eq 5, 3) := by decide +kernel
theorem dX13_champions_63 : decode cX13_champions 63 = .ok (.iconst (-1), 1) := by decide +kernel
theorem dX13_champions_64 : decode cX13_champions 64 = .ok (.istore_n 3, 1) := by decide +kernel
theorem dX13_champions_65 : decode cX13_champions 65 = .ok (.iconst 0, 1) := by decide +kernel
theorem dX13_champions_66 : decode cX13_champions 66 = .ok (.istore 4, 2) := by decide +kernel
theorem dX13_champions_68 : decode cX13_champions 68 = .ok (.iload 4, 2) := by decide +kernel
theorem dX13_champions_70 : decode cX13_champions 70 = .ok (.iload_n 2, 1) := by decide +kernel
theorem dX13_champions_71 : decode cX13_champions 71 = .ok (.if_icmp .ge 51, 3) := by decide +kernel
theorem dX13_champions_122 : decode cX13_champions 122 = .ok (.iload_n 3, 1) := by decide +kernel
theorem dX13_champions_123 : decode cX13_champions 123 = .ok (.ireturn, 1) := by decide +kernel
theorem dX13_champions_74 : decode cX13_champions 74 = .ok (.aload_n 0, 1) := by decide +kernel
theorem dX13_champions_75 : decode cX13_champions 75 = .ok (.getfield 131, 3) := by decide +kernel
theorem dX13_champions_78 : decode cX13_champions 78 = .ok (.iload 4, 2) := by decide +kernel
theorem dX13_champions_80 : decode cX13_champions 80 = .ok (.iaload, 1) := by decide +kernel
theorem dX13_champions_81 : decode cX13_champions 81 = .ok (.iload_n 1, 1) := by decide +kernel
theorem dX13_champions_82 : decode cX13_champions 82 = .ok (.iconst 2, 1) := by decide +kernel
theorem dX13_champions_83 : decode cX13_champions 83 = .ok (.isub, 1) := by decide +kernel
theorem dX13_champions_115 : decode cX13_champions 115 = .ok (.istore_n 3, 1) := by decide +kernel
theorem dX13_champions_116 : decode cX13_champions 116 = .ok (.iinc 4 1, 3) := by decide +kernel
theorem dX13_champions_119 : decode cX13_champions 119 = .ok (.goto (-51), 3) := by decide +kernel
theorem dX13_champions_84 : decode cX13_champions 84 = .ok (.if_icmp .ne 30, 3) := by decide +kernel
theorem dX13_champions_114 : decode cX13_champions 114 = .ok (.iload_n 3, 1) := by decide +kernel
theorem dX13_champions_87 : decode cX13_champions 87 = .ok (.aload_n 0, 1) := by decide +kernel
theorem dX13_champions_88 : decode cX13_champions 88 = .ok (.getfield 137, 3) := by decide +kernel
theorem dX13_champions_91 : decode cX13_champions 91 = .ok (.iload 4, 2) := by decide +kernel
theorem dX13_champions_93 : decode cX13_champions 93 = .ok (.iaload, 1) := by decide +kernel
theorem dX13_champions_94 : decode cX13_champions 94 = .ok (.bipush 8, 2) := by decide +kernel
theorem dX13_champions_96 : decode cX13_champions 96 = .ok (.if_icmp .ne 8, 3) := by decide +kernel
theorem dX13_champions_104 : decode cX13_champions 104 = .ok (.aload_n 0, 1) := by decide +kernel
theorem dX13_champions_105 : decode cX13_champions 105 = .ok (.getfield 137, 3) := by decide +kernel
theorem dX13_champions_108 : decode cX13_champions 108 = .ok (.iload 4, 2) := by decide +kernel
theorem dX13_champions_110 : decode cX13_champions 110 = .ok (.iaload, 1) := by decide +kernel
theorem dX13_champions_111 : decode cX13_champions 111 = .ok (.goto 4, 3) := by decide +kernel
theorem dX13_champions_99 : decode cX13_champions 99 = .ok (.bipush 100, 2) := by decide +kernel
theorem dX13_champions_101 : decode cX13_champions 101 = .ok (.goto 14, 3) := by decide +kernel
set_option maxHeartbeats 4000000 in
set_option maxRecDepth 100000 in
theorem k_X13_champions (l : Launch) (D : va_G) (cy : Nat → ClassId) (ld ad : Nat → Nat) (am : Nat) (hD : mz_D ad am) (Fa : Nat → Int32) (Ga : Nat → Int64) (Ra : Nat → Nat → Int32) (Sa : Nat → Nat → Int64) (p1 : Int32) (hIF : mz_IF true Fa) (hIG : mz_IG Ga) (hIR : mz_IR [] true Ra) : Met l yX13_champions (wl yX13_champions cX13_champions 5 (some .int)) ({ frames := 14, cells := 0, slots := 0, locals := 910 }) (mz_p D cy ld ad am Fa Ga Ra Sa [.ref am, .int p1]) (mz_i D cy ad am (fun r F G R S => mz_IF true F ∧ mz_IG G ∧ mz_IR [] true R ∧ (∀ k : Nat, k ∉ ([0, 34, 38, 41, 53, 54] : List Nat) → F k = Fa k) ∧ (∀ k : Nat, k ∉ ([3, 6, 49, 50, 51, 52] : List Nat) → R k = Ra k) ∧ (∀ k : Nat, k ∉ ([39, 40, 47] : List Nat) → G k = Ga k) ∧ rK1 (Ra 3) (R 3))) 0 0 (mz_W ad am) := by
  refine mz_met (y := yX13_champions) (cc := cX13_champions) (maxL := 5) (ret := (some .int)) (av := [.ref am, .int p1]) _ (by decide) (Nat.le_of_ble_eq_true rfl) ?_
  intro p e s m args below meth c hx hb hr hml hts htl hown hlocks hK H locs hM hS ls hl
  have hown : s.vm.findClass RX13 = some m.cls := hown
  have hl : lv_has ls 5 [(0, .ref am), (1, .int p1)] := hl
  have hr_p1 := tk_rng p1
  refine lv_aload_n hx hb dX13_champions_0 rfl (lv_at hl 0 rfl) ?_
  refine lv_iconst (v := 0) hx hb dX13_champions_1 (by decide) ?_
  have hk_0 : (0 : Int32).toInt = 0 := by decide
  refine mz_putI (ty := .int) (x := 0) hx hb htl hown hK hD hM hS 0 (Nat.le_of_ble_eq_true rfl) rfl (htl _ mw_286) (fun _ h9 => h9) rfl (tyX13_ok 0 (by decide)) rfl rfl dX13_champions_2 (fun H locs F hM hS hf9 hj9 => ?_)
  have hIF := hIF.put hf9 hj9 (tk_rng _).1 (tk_rng _).2 (by decide)
  have hFF := mz_frp (K := [0, 34, 38, 41, 53, 54]) (Fa := Fa) hj9 (fun _ _ => rfl) (by decide)
  have hf2 := hf9
  refine lv_iload_n hx hb dX13_champions_5 rfl (lv_at hl 1 rfl) ?_
  refine lv_if_lt (tgt := 35) hx hb dX13_champions_6 (by decide) (fun c9 => ?_) (fun c9 => ?_)
  · have hc3 : p1.toInt < 0 := (fi_lt rfl (show (0 : Int32).toInt = 0 by decide)).mp c9
    refine lv_iconst (v := (-1)) hx hb dX13_champions_35 (by decide) ?_
    have hk_m1 : ((-1) : Int32).toInt = (-1) := by decide
    exact mz_iret (v := (-1)) hx hb hr rfl hlocks ⟨hIF, hIG, hIR, hFF, (fun _ _ => rfl), (fun _ _ => rfl), (rK1.refl rfl)⟩ hM hS dX13_champions_36
  · have hc3 : ¬ (p1.toInt < 0) := fun h9 => c9 ((fi_lt rfl (show (0 : Int32).toInt = 0 by decide)).mpr h9)
    refine lv_iload_n hx hb dX13_champions_9 rfl (lv_at hl 1 rfl) ?_
    refine lv_iconst (v := 1) hx hb dX13_champions_10 (by decide) ?_
    refine lv_icmp_le (tgt := 37) hx hb dX13_champions_11 (by decide) (fun c9 => ?_) (fun c9 => ?_)
    · have hc4 : p1.toInt ≤ 1 := (fi_le rfl (show (1 : Int32).toInt = 1 by decide)).mp c9
      refine lv_aload_n hx hb dX13_champions_37 rfl (lv_at hl 0 rfl) ?_
      obtain ⟨v6, hf5⟩ : ∃ z : Int32, Ra 3 0 = z := ⟨_, rfl⟩
      have hq_v6 := tk_rng v6
      have hr_v6 : 0 ≤ v6.toInt ∧ v6.toInt ≤ 8 := by have h9 := mz_r3c 0 (hIR.at 3) hf5 (by decide); unfold mE at h9; omega
      refine mz_Vi (As := []) (rest := []) ⟨hx, hb, hml, hown, hts⟩ hK hM hS (k_X13_findChampions l D cy ld ad am hD _ _ _ _ v6 hIF hIG hIR hf5) ⟨callB_of 0 hts (wl_in mw_1438) rfl rfl rfl (htl _ mw_5) (htl _ mw_1435) hd_yX13_findChampions ⟨(Nat.le_of_ble_eq_true rfl), (Nat.le_of_ble_eq_true rfl)⟩, htl _ mw_1436, htl _ mw_1437⟩ rfl hl.1 rfl (Nat.le_of_ble_eq_true rfl) dX13_champions_38 ⟨(Nat.le_of_ble_eq_true rfl), (Nat.le_of_ble_eq_true rfl)⟩ (fun v10 H locs F G R S hpo hM hS => ?_)
      obtain ⟨hIF, hIG, hIR, hfr9, hrr9, hgr9, hrel9, hpo11, hpo12, hpo13, hpo14⟩ := hpo
      have hq_v10 := tk_rng v10
      have hFF := mz_fr (K := [0, 34, 38, 41, 53, 54]) (Fa := Fa) hfr9 hFF (by decide)
      have hRR := mz_fr (K := [3, 6, 49, 50, 51, 52]) (Fa := Ra) hrr9 (fun _ _ => rfl) (by decide)
      have hGG := mz_fr (K := [39, 40, 47]) (Fa := Ga) hgr9 (fun _ _ => rfl) (by decide)
      have hrel := (rK1.refl rfl).trans hrel9
      have hf2 := (hfr9 0 (by decide)).trans hf2
      have hf5 : R 3 0 = _ := (hrel9 0 (by omega)).trans hf5
      refine lv_istore_n (lv' := [(2, .int v10), (0, .ref am), (1, .int p1)]) hx hb dX13_champions_41 rfl hl (by decide) rfl (fun ls hl => ?_)
      refine lv_iload_n hx hb dX13_champions_42 rfl (lv_at hl 2 rfl) ?_
      refine lv_iconst (v := 2) hx hb dX13_champions_43 (by decide) ?_
      refine lv_icmp_ge (tgt := 63) hx hb dX13_champions_44 (by decide) (fun c9 => absurd (show 2 ≤ p1.toInt from (fi_le (show (2 : Int32).toInt = 2 by decide) rfl).mp c9) (by omega)) (fun _ => ?_)
      refine lv_iload_n hx hb dX13_champions_47 rfl (lv_at hl 2 rfl) ?_
      refine lv_if_ne (tgt := 58) hx hb dX13_champions_48 (by decide) (fun c9 => ?_) (fun c9 => ?_)
      · have hc16 : ¬ (p1.toInt = 0) := fun h9 => c9 ((fi_eq rfl (show (0 : Int32).toInt = 0 by decide)).mpr h9)
        refine lv_aload_n hx hb dX13_champions_58 rfl (lv_at hl 1 rfl) ?_
        refine mz_getI hx hb htl hown hK hM 54 (Nat.le_of_ble_eq_true rfl) rfl (htl _ mw_1434) (fun _ h9 => h9) dX13_champions_59 (fun v18 hf17 => ?_)
        have hq_v18 := tk_rng v18
        exact mz_iret (v := v18) hx hb hr rfl hlocks ⟨hIF, hIG, hIR, hFF, hRR, hGG, hrel⟩ hM hS dX13_champions_62
      · have hc16 : p1.toInt = 0 := (fi_eq rfl (show (0 : Int32).toInt = 0 by decide)).mp c9
        refine lv_aload_n hx hb dX13_champions_51 rfl (lv_at hl 1 rfl) ?_
        refine mz_getI hx hb htl hown hK hM 53 (Nat.le_of_ble_eq_true rfl) rfl (htl _ mw_1433) (fun _ h9 => h9) dX13_champions_52 (fun v20 hf19 => ?_)
        have hq_v20 := tk_rng v20
        refine lv_goto (tgt := 62) hx hb dX13_champions_55 (by decide) ?_
        exact mz_iret (v := v20) hx hb hr rfl hlocks ⟨hIF, hIG, hIR, hFF, hRR, hGG, hrel⟩ hM hS dX13_champions_62
    · have hc4 : ¬ (p1.toInt ≤ 1) := fun h9 => c9 ((fi_le rfl (show (1 : Int32).toInt = 1 by decide)).mpr h9)
      refine lv_aload_n hx hb dX13_champions_14 rfl (lv_at hl 0 rfl) ?_
      refine lv_iload_n hx hb dX13_champions_15 rfl (lv_at hl 1 rfl) ?_
      refine lv_iconst (v := 2) hx hb dX13_champions_16 (by decide) ?_
      refine lv_isub hx hb dX13_champions_17 ?_
      refine tk_sub rfl (show (2 : Int32).toInt = 2 by decide) (by omega) (by omega) (fun v21 h_v21 => ?_)
      refine mz_Vj (As := [.int v21]) (rest := []) ⟨hx, hb, hml, hown, hts⟩ hK hM hS (k_X13_isSinger l D cy ld ad am hD _ _ _ _ v21 (hIF.weak) hIG hIR) ⟨callB_of 1 hts (wl_in mw_320) rfl rfl rfl (htl _ mw_5) (htl _ mw_317) hd_yX13_isSinger ⟨(Nat.le_of_ble_eq_true rfl), (Nat.le_of_ble_eq_true rfl)⟩, htl _ mw_318, htl _ mw_319⟩ rfl hl.1 rfl (Nat.le_of_ble_eq_true rfl) dX13_champions_18 ⟨(Nat.le_of_ble_eq_true rfl), (Nat.le_of_ble_eq_true rfl)⟩ (fun v22 H locs hpo hM hS => ?_)
      obtain ⟨hpo23, hpo24, hpo25, hpo26, hpo27⟩ := hpo
      have hq_v22 := tk_rng v22
      refine lv_if_eq (tgt := 35) hx hb dX13_champions_21 (by decide) (fun c9 => ?_) (fun c9 => ?_)
      · have hc29 : v22.toInt = 0 := (fi_eq rfl (show (0 : Int32).toInt = 0 by decide)).mp c9
        refine lv_iconst (v := (-1)) hx hb dX13_champions_35 (by decide) ?_
        have hk_m1 : ((-1) : Int32).toInt = (-1) := by decide
        exact mz_iret (v := (-1)) hx hb hr rfl hlocks ⟨hIF, hIG, hIR, hFF, (fun _ _ => rfl), (fun _ _ => rfl), (rK1.refl rfl)⟩ hM hS dX13_champions_36
      · have hc29 : ¬ (v22.toInt = 0) := fun h9 => c9 ((fi_eq rfl (show (0 : Int32).toInt = 0 by decide)).mpr h9)
        have hwk_30 : v21.toInt ≤ 7 := by omega
        refine lv_aload_n hx hb dX13_champions_24 rfl (lv_at hl 0 rfl) ?_
        refine lv_iload_n hx hb dX13_champions_25 rfl (lv_at hl 1 rfl) ?_
        refine lv_iconst (v := 2) hx hb dX13_champions_26 (by decide) ?_
        refine lv_isub hx hb dX13_champions_27 ?_
        refine tk_sub rfl (show (2 : Int32).toInt = 2 by decide) (by omega) (by omega) (fun v31 h_v31 => ?_)
        refine lv_iconst (v := 2) hx hb dX13_champions_28 (by decide) ?_
        have hk_2 : (2 : Int32).toInt = 2 := by decide
        refine mz_Vj (As := [.int v31, .int 2]) (rest := []) ⟨hx, hb, hml, hown, hts⟩ hK hM hS (k_X13_ofSinger_2 l D cy ld ad am hD _ _ _ _ v31 (hIF.weak) hIG hIR (by omega) (by omega)) ⟨callB_of 2 hts (wl_in mw_324) rfl rfl rfl (htl _ mw_5) (htl _ mw_321) hd_yX13_ofSinger ⟨(Nat.le_of_ble_eq_true rfl), (Nat.le_of_ble_eq_true rfl)⟩, htl _ mw_322, htl _ mw_323⟩ rfl hl.1 rfl (Nat.le_of_ble_eq_true rfl) dX13_champions_29 ⟨(Nat.le_of_ble_eq_true rfl), (Nat.le_of_ble_eq_true rfl)⟩ (fun v32 H locs hpo hM hS => ?_)
        obtain ⟨hpo33, hpo34⟩ := hpo
        have hq_v32 := tk_rng v32
        refine lv_if_eq (tgt := 37) hx hb dX13_champions_32 (by decide) (fun c9 => ?_) (fun c9 => ?_)
        · have hc36 : v32.toInt = 0 := (fi_eq rfl (show (0 : Int32).toInt = 0 by decide)).mp c9
          refine lv_aload_n hx hb dX13_champions_37 rfl (lv_at hl 0 rfl) ?_
          obtain ⟨v38, hf37⟩ : ∃ z : Int32, Ra 3 0 = z := ⟨_, rfl⟩
          have hq_v38 := tk_rng v38
          have hr_v38 : 0 ≤ v38.toInt ∧ v38.toInt ≤ 8 := by have h9 := mz_r3c 0 (hIR.at 3) hf37 (by decide); unfold mE at h9; omega
          refine mz_Vi (As := []) (rest := []) ⟨hx, hb, hml, hown, hts⟩ hK hM hS (k_X13_findChampions l D cy ld ad am hD _ _ _ _ v38 hIF hIG hIR hf37) ⟨callB_of 0 hts (wl_in mw_1438) rfl rfl rfl (htl _ mw_5) (htl _ mw_1435) hd_yX13_findChampions ⟨(Nat.le_of_ble_eq_true rfl), (Nat.le_of_ble_eq_true rfl)⟩, htl _ mw_1436, htl _ mw_1437⟩ rfl hl.1 rfl (Nat.le_of_ble_eq_true rfl) dX13_champions_38 ⟨(Nat.le_of_ble_eq_true rfl), (Nat.le_of_ble_eq_true rfl)⟩ (fun v39 H locs F G R S hpo hM hS => ?_)
          obtain ⟨hIF, hIG, hIR, hfr9, hrr9, hgr9, hrel9, hpo40, hpo41, hpo42, hpo43⟩ := hpo
          have hq_v39 := tk_rng v39
          have hFF := mz_fr (K := [0, 34, 38, 41, 53, 54]) (Fa := Fa) hfr9 hFF (by decide)
          have hRR := mz_fr (K := [3, 6, 49, 50, 51, 52]) (Fa := Ra) hrr9 (fun _ _ => rfl) (by decide)
          have hGG := mz_fr (K := [39, 40, 47]) (Fa := Ga) hgr9 (fun _ _ => rfl) (by decide)
          have hrel := (rK1.refl rfl).trans hrel9
          have hf2 := (hfr9 0 (by decide)).trans hf2
          have hf37 : R 3 0 = _ := (hrel9 0 (by omega)).trans hf37
          refine lv_istore_n (lv' := [(2, .int v39), (0, .ref am), (1, .int p1)]) hx hb dX13_champions_41 rfl hl (by decide) rfl (fun ls hl => ?_)
          refine lv_iload_n hx hb dX13_champions_42 rfl (lv_at hl 2 rfl) ?_
          refine lv_iconst (v := 2) hx hb dX13_champions_43 (by decide) ?_
          refine lv_icmp_ge (tgt := 63) hx hb dX13_champions_44 (by decide) (fun _ => ?_) (fun c9 => absurd ((fi_le (show (2 : Int32).toInt = 2 by decide) rfl).mpr (show 2 ≤ p1.toInt by omega)) c9)
          refine lv_iconst (v := (-1)) hx hb dX13_champions_63 (by decide) ?_
          refine lv_istore_n (lv' := [(3, .int (-1)), (2, .int v39), (0, .ref am), (1, .int p1)]) hx hb dX13_champions_64 rfl hl (by decide) rfl (fun ls hl => ?_)
          refine lv_iconst (v := 0) hx hb dX13_champions_65 (by decide) ?_
          refine lv_istore (lv' := [(4, .int 0), (3, .int (-1)), (2, .int v39), (0, .ref am), (1, .int p1)]) hx hb dX13_champions_66 hl (by decide) rfl (fun ls hl => ?_)
          have hl260 : ∀ (N_l260 : Nat) (v97 : Int32) (v98 : Int32), (0 ≤ v97.toInt) → (0 ≤ v39.toInt + (-1) * v97.toInt) → ((-1) * v97.toInt + 8 < (N_l260 : Int)) → ∀ ls : Array Slot, lv_has ls 5 [(4, .int v97), (3, .int v98), (2, .int v39), (0, .ref am), (1, .int p1)] → W p l e ({ frames := 14, cells := 0, slots := 0, locals := 910 }) s m args below meth c H locs 0 0 (MQ below (mz_i D cy ad am (fun r F G R S => mz_IF true F ∧ mz_IG G ∧ mz_IR [] true R ∧ (∀ k : Nat, k ∉ ([0, 34, 38, 41, 53, 54] : List Nat) → F k = Fa k) ∧ (∀ k : Nat, k ∉ ([3, 6, 49, 50, 51, 52] : List Nat) → R k = Ra k) ∧ (∀ k : Nat, k ∉ ([39, 40, 47] : List Nat) → G k = Ga k) ∧ rK1 (Ra 3) (R 3))) args s 0 0 (mz_W ad am)) (F0 m 68 ls []) := by
            intro N_l260
            induction N_l260 with
            | zero => intro v97 v98 hq0_l260 hq1_l260 hm_l260 ls hl; exfalso; omega
            | succ N_l260 ih_l260 =>
              intro v97 v98 hq0_l260 hq1_l260 hm_l260 ls hl
              refine lv_iload hx hb dX13_champions_68 (lv_at hl 0 rfl) ?_
              refine lv_iload_n hx hb dX13_champions_70 rfl (lv_at hl 2 rfl) ?_
              refine lv_icmp_ge (tgt := 122) hx hb dX13_champions_71 (by decide) (fun c9 => ?_) (fun c9 => ?_)
              · have hc261 : v39.toInt ≤ v97.toInt := (fi_le rfl rfl).mp c9
                refine lv_iload_n hx hb dX13_champions_122 rfl (lv_at hl 1 rfl) ?_
                exact mz_iret (v := v98) hx hb hr rfl hlocks ⟨hIF, hIG, hIR, hFF, hRR, hGG, hrel⟩ hM hS dX13_champions_123
              · have hc261 : ¬ (v39.toInt ≤ v97.toInt) := fun h9 => c9 ((fi_le rfl rfl).mpr h9)
                refine lv_aload_n hx hb dX13_champions_74 rfl (lv_at hl 3 rfl) ?_
                refine mz_getR hx hb htl hown hK hM 50 (Nat.le_of_ble_eq_true rfl) (Nat.le_of_ble_eq_true rfl) (htl _ mw_233) (fun _ h9 => h9) dX13_champions_75 ?_
                refine lv_iload hx hb dX13_champions_78 (lv_at hl 0 rfl) ?_
                refine mz_iald hx hb hK hM 50 (Nat.le_of_ble_eq_true rfl) rfl (nn := 8) rfl rfl (by omega) (by omega) dX13_champions_80 (fun v273 e_v273 => ?_)
                have hq_v273 := tk_rng v273
                have he_v273 : 0 ≤ v273.toInt ∧ v273.toInt ≤ 7 := mz_elg (n := 8) (hIR.at 50) e_v273 rfl (by omega) (by omega)
                refine lv_iload_n hx hb dX13_champions_81 rfl (lv_at hl 4 rfl) ?_
                refine lv_iconst (v := 2) hx hb dX13_champions_82 (by decide) ?_
                refine lv_isub hx hb dX13_champions_83 ?_
                refine tk_sub rfl (show (2 : Int32).toInt = 2 by decide) (by omega) (by omega) (fun v274 h_v274 => ?_)
                have hj280 : ∀ (v279 : Int32), ∀ ls : Array Slot, lv_has ls 5 [(4, .int v97), (2, .int v39), (0, .ref am), (1, .int p1)] → W p l e ({ frames := 14, cells := 0, slots := 0, locals := 910 }) s m args below meth c H locs 0 0 (MQ below (mz_i D cy ad am (fun r F G R S => mz_IF true F ∧ mz_IG G ∧ mz_IR [] true R ∧ (∀ k : Nat, k ∉ ([0, 34, 38, 41, 53, 54] : List Nat) → F k = Fa k) ∧ (∀ k : Nat, k ∉ ([3, 6, 49, 50, 51, 52] : List Nat) → R k = Ra k) ∧ (∀ k : Nat, k ∉ ([39, 40, 47] : List Nat) → G k = Ga k) ∧ rK1 (Ra 3) (R 3))) args s 0 0 (mz_W ad am)) (F0 m 115 ls [.int v279]) := by
                  intro v279  ls hl
                  refine lv_istore_n (lv' := [(3, .int v279), (4, .int v97), (2, .int v39), (0, .ref am), (1, .int p1)]) hx hb dX13_champions_115 rfl hl (by decide) rfl (fun ls hl => ?_)
                  obtain ⟨v281, h_v281, e_v281⟩ := tk_inc v97 1 (by decide) (by omega) (by omega)
                  refine lv_iinc (v := v281) (lv' := [(4, .int v281), (3, .int v279), (2, .int v39), (0, .ref am), (1, .int p1)]) hx hb dX13_champions_116 hl (k := 1) rfl e_v281 (by decide) rfl (fun ls hl => ?_)
                  refine lv_goto (tgt := 68) hx hb dX13_champions_119 (by decide) ?_
                  exact ih_l260 v281 v279 (by omega) (by omega) (by omega) _ (lv_sub hl [0, 1, 2, 3, 4] rfl)
                refine lv_icmp_ne (tgt := 114) hx hb dX13_champions_84 (by decide) (fun c9 => ?_) (fun c9 => ?_)
                · have hc275 : ¬ (v273.toInt = v274.toInt) := fun h9 => c9 ((fi_eq rfl rfl).mpr h9)
                  refine lv_iload_n hx hb dX13_champions_114 rfl (lv_at hl 1 rfl) ?_
                  exact hj280 v98 _ (lv_sub hl [0, 2, 3, 4] rfl)
                · have hc275 : v273.toInt = v274.toInt := (fi_eq rfl rfl).mp c9
                  refine lv_aload_n hx hb dX13_champions_87 rfl (lv_at hl 3 rfl) ?_
                  refine mz_getR hx hb htl hown hK hM 52 (Nat.le_of_ble_eq_true rfl) (Nat.le_of_ble_eq_true rfl) (htl _ mw_235) (fun _ h9 => h9) dX13_champions_88 ?_
                  refine lv_iload hx hb dX13_champions_91 (lv_at hl 0 rfl) ?_
                  refine mz_iald hx hb hK hM 52 (Nat.le_of_ble_eq_true rfl) rfl (nn := 8) rfl rfl (by omega) (by omega) dX13_champions_93 (fun v282 e_v282 => ?_)
                  have hq_v282 := tk_rng v282
                  refine lv_bipush (v := 8) hx hb dX13_champions_94 (by decide) ?_
                  refine lv_icmp_ne (tgt := 104) hx hb dX13_champions_96 (by decide) (fun c9 => ?_) (fun c9 => ?_)
                  · have hc283 : ¬ (v282.toInt = 8) := fun h9 => c9 ((fi_eq rfl (show (8 : Int32).toInt = 8 by decide)).mpr h9)
                    refine lv_aload_n hx hb dX13_champions_104 rfl (lv_at hl 3 rfl) ?_
                    refine mz_getR hx hb htl hown hK hM 52 (Nat.le_of_ble_eq_true rfl) (Nat.le_of_ble_eq_true rfl) (htl _ mw_235) (fun _ h9 => h9) dX13_champions_105 ?_
                    refine lv_iload hx hb dX13_champions_108 (lv_at hl 0 rfl) ?_
                    refine mz_iald hx hb hK hM 52 (Nat.le_of_ble_eq_true rfl) rfl (nn := 8) rfl rfl (by omega) (by omega) dX13_champions_110 (fun v9 e9 => ?_)
                    refine fx_ti (v := v282) (e9.symm.trans e_v282) ?_
                    refine lv_goto (tgt := 115) hx hb dX13_champions_111 (by decide) ?_
                    exact hj280 v282 _ (lv_sub hl [0, 2, 3, 4] rfl)
                  · have hc283 : v282.toInt = 8 := (fi_eq rfl (show (8 : Int32).toInt = 8 by decide)).mp c9
                    refine lv_bipush (v := 100) hx hb dX13_champions_99 (by decide) ?_
                    refine lv_goto (tgt := 115) hx hb dX13_champions_101 (by decide) ?_
                    have hk_100 : (100 : Int32).toInt = 100 := by decide
                    exact hj280 100 _ (lv_sub hl [0, 2, 3, 4] rfl)
          have hk_0 : (0 : Int32).toInt = 0 := by decide
          have hk_m1 : ((-1) : Int32).toInt = (-1) := by decide
          exact hl260 9 0 (-1) (by omega) (by omega) (by omega) _ (lv_sub hl [0, 1, 2, 3, 4] rfl)
        · have hc36 : ¬ (v32.toInt = 0) := fun h9 => c9 ((fi_eq rfl (show (0 : Int32).toInt = 0 by decide)).mpr h9)
          refine lv_iconst (v := (-1)) hx hb dX13_champions_35 (by decide) ?_
          have hk_m1 : ((-1) : Int32).toInt = (-1) := by decide
          exact mz_iret (v := (-1)) hx hb hr rfl hlocks ⟨hIF, hIG, hIR, hFF, (fun _ _ => rfl), (fun _ _ => rfl), (rK1.refl rfl)⟩ hM hS dX13_champions_36
end
section
/-- how often the clauses are run -/
def TMS (cl : Nat → Int32) (n : Int) : Prop := ∀ c : Nat, (c : Int) < n → 0 ≤ (cl (10 * c + 9)).toInt ∧ (cl (10 * c + 9)).toInt ≤ 20
theorem TMS.none (cl : Nat → Int32) : TMS cl 0 := fun c h => absurd h (by omega)
theorem TMS.snoc {cl cl1 : Nat → Int32} {n n1 : Int} {N : Nat} {v : Int32} (h : TMS cl n) (hn : n = (N : Int)) (hn1 : n1 = n + 1) (hl : low (10 * N) cl cl1) (hv : cl1 (10 * N + 9) = v) (h0 : 0 ≤ v.toInt) (h1 : v.toInt ≤ 20) : TMS cl1 n1 := fun c hc => by
  by_cases e : c = N
  · subst e
    rw [hv]
    exact ⟨h0, h1⟩
  · rw [hl _ (by omega)]
    exact h c (by omega)
theorem zr_step {f g : Nat → Int32} {C k : Nat} {i x : Int32} (h : ∀ d : Nat, d < k → f (C + d) = 0) (hw : g = upd f i.toNatClampNeg x) (hi : i.toInt = ((C + k : Nat) : Int)) (hx : x = 0) : ∀ d : Nat, d < k + 1 → g (C + d) = 0 := fun d hd => by
  have hn := tk_nat hi (by omega)
  rw [hw]
  by_cases e : d = k
  · subst e
    rw [show i.toNatClampNeg = C + d by omega, pk_us, hx]
  · rw [pk_un (by omega)]
    exact h d (by omega)
theorem CLS.to3 {w : Nat} {ds : List Nat} {op arg op1 arg1 cl cl1 : Nat → Int32} {nC n : Int} (h : CLS w ds op arg cl nC n) (e1 : op1 = op) (e2 : arg1 = arg) (e3 : cl1 = cl) : CLS w ds op1 arg1 cl1 nC n := by
  subst e1
  subst e2
  subst e3
  exact h
theorem dX13_readSum_0 : decode cX13_readSum 0 = .ok (.aload_n 0, 1) := by decide +kernel
theorem dX13_readSum_1 : decode cX13_readSum 1 = .ok (.getfield 149, 3) := by decide +kernel
theorem dX13_readSum_4 : decode cX13_readSum 4 = .ok (.iload_n 1, 1) := by decide +kernel
theorem dX13_readSum_5 : decode cX13_readSum 5 = .ok (.aload_n 0, 1) := by decide +kernel
theorem dX13_readSum_6 : decode cX13_readSum 6 = .ok (.getfield 275, 3) := by decide +kernel
theorem dX13_readSum_9 : decode cX13_readSum 9 = .ok (.iastore, 1) := by decide +kernel
theorem dX13_readSum_10 : decode cX13_readSum 10 = .ok (.aload_n 0, 1) := by decide +kernel
theorem dX13_readSum_11 : decode cX13_readSum 11 = .ok (.getfield 236, 3) := by decide +kernel
theorem dX13_readSum_14 : decode cX13_readSum 14 = .ok (.ifCond .ne 8, 3) := by decide +kernel
theorem dX13_readSum_22 : decode cX13_readSum 22 = .ok (.aload_n 0, 1) := by decide +kernel
theorem dX13_readSum_23 : decode cX13_readSum 23 = .ok (.getfield 149, 3) := by decide +kernel
theorem dX13_readSum_26 : decode cX13_readSum 26 = .ok (.iload_n 1, 1) := by decide +kernel
theorem dX13_readSum_27 : decode cX13_readSum 27 = .ok (.iconst 1, 1) := by decide +kernel
theorem dX13_readSum_28 : decode cX13_readSum 28 = .ok (.iadd, 1) := by decide +kernel
theorem dX13_readSum_29 : decode cX13_readSum 29 = .ok (.aload_n 0, 1) := by decide +kernel
theorem dX13_readSum_30 : decode cX13_readSum 30 = .ok (.getfield 275, 3) := by decide +kernel
theorem dX13_readSum_33 : decode cX13_readSum 33 = .ok (.iastore, 1) := by decide +kernel
theorem dX13_readSum_34 : decode cX13_readSum 34 = .ok (.return_, 1) := by decide +kernel
theorem dX13_readSum_17 : decode cX13_readSum 17 = .ok (.aload_n 0, 1) := by decide +kernel
theorem dX13_readSum_18 : decode cX13_readSum 18 = .ok (.iconst 0, 1) := by decide +kernel
theorem dX13_readSum_19 : decode cX13_readSum 19 = .ok (.invokevirtual 372, 3) := by decide +kernel
set_option maxHeartbeats 4000000 in
set_option maxRecDepth 100000 in
theorem k_X13_readSum (l : Launch) (D : va_G) (cy : Nat → ClassId) (ld ad : Nat → Nat) (am : Nat) (hD : mz_D ad am) (Fa : Nat → Int32) (Ga : Nat → Int64) (Ra : Nat → Nat → Int32) (Sa : Nat → Nat → Int64) (p1 : Int32) (gf : Int32) (gt : Int32) (gs : Int32) (gp : Int32) (gw : Int64) (gb : Int32) (gc : Int32) (hIF : mz_IF false Fa) (hIG : mz_IG Ga) (hIR : mz_IR [] true Ra) (hg_0 : Fa 14 = gf) (hg_1 : Fa 15 = gt) (hg_2 : Fa 16 = gs) (hg_3 : Fa 13 = gp) (hg_4 : Ga 17 = gw) (hg_5 : Fa 19 = gb) (hg_6 : Fa 23 = gc) (hp_0 : 0 ≤ p1.toInt) (hp_1 : p1.toInt ≤ 118) (hp_2 : 0 ≤ (-1) * gf.toInt + gt.toInt) (hp_3 : 0 ≤ gp.toInt + (-1) * gt.toInt) (hp_4 : (1 ≤ gs.toInt → 0 ≤ (-1) * gf.toInt + gt.toInt + (-1))) (hp_5 : (27 ≤ gw.toInt → 1 ≤ gs.toInt → gs.toInt ≤ 1 → 0 ≤ (-1) * gf.toInt + gt.toInt + (-2))) (hp_6 : 0 ≤ (-1) * gc.toInt + gf.toInt) : Met l yX13_readSum (wl yX13_readSum cX13_readSum 2 none) ({ frames := 10, cells := 0, slots := 0, locals := 630 }) (mz_p D cy ld ad am Fa Ga Ra Sa [.ref am, .int p1]) (mz_w D cy ad am (fun F G R S => mz_IF false F ∧ mz_IG G ∧ mz_IR [] true R ∧ (∀ k : Nat, k ∉ ([14, 15, 16, 18, 19, 23, 26, 29, 30] : List Nat) → F k = Fa k) ∧ (∀ k : Nat, k ∉ ([24, 25, 27, 28, 61] : List Nat) → R k = Ra k) ∧ (∀ k : Nat, k ∉ ([17] : List Nat) → G k = Ga k) ∧ 0 ≤ (-1) * (F 14).toInt + (F 15).toInt ∧ 0 ≤ gp.toInt + (-1) * (F 15).toInt ∧ (1 ≤ (F 16).toInt → 0 ≤ (-1) * (F 14).toInt + (F 15).toInt + (-1)) ∧ (27 ≤ (G 17).toInt → 1 ≤ (F 16).toInt → (F 16).toInt ≤ 1 → 0 ≤ (-1) * (F 14).toInt + (F 15).toInt + (-2)) ∧ 0 ≤ (-1) * gf.toInt + (F 14).toInt ∧ 0 ≤ (-1) * gc.toInt + (F 23).toInt ∧ 0 ≤ (-1) * (F 23).toInt + (F 14).toInt ∧ 0 ≤ (-1) * gb.toInt + (F 19).toInt ∧ R 61 = upd (upd (Ra 61) p1.toInt.toNat gc) (p1.toInt.toNat + 1) (F 23) ∧ ((F 19).toInt = 0 → WFC (R 24) (R 25) gc.toInt.toNat (F 23).toInt.toNat ∧ low gc.toInt.toNat (Ra 24) (R 24) ∧ low gc.toInt.toNat (Ra 25) (R 25)))) 0 0 (mz_W ad am) := by
  refine mz_met (y := yX13_readSum) (cc := cX13_readSum) (maxL := 2) (ret := none) (av := [.ref am, .int p1]) _ (by decide) (Nat.le_of_ble_eq_true rfl) ?_
  intro p e s m args below meth c hx hb hr hml hts htl hown hlocks hK H locs hM hS ls hl
  have hown : s.vm.findClass RX13 = some m.cls := hown
  have hl : lv_has ls 2 [(0, .ref am), (1, .int p1)] := hl
  have hr_p1 := tk_rng p1
  have hq_gf := tk_rng gf
  have hq_gt := tk_rng gt
  have hq_gs := tk_rng gs
  have hq_gp := tk_rng gp
  have hq_gw := tk_rngL gw
  have hq_gb := tk_rng gb
  have hq_gc := tk_rng gc
  have hr_gf : 0 ≤ gf.toInt ∧ gf.toInt ≤ 400 := hIF.at hg_0
  have hr_gt : 0 ≤ gt.toInt ∧ gt.toInt ≤ 400 := hIF.at hg_1
  have hr_gs : 0 ≤ gs.toInt ∧ gs.toInt ≤ 3 := hIF.at hg_2
  have hr_gp : 0 ≤ gp.toInt ∧ gp.toInt ≤ 400 := hIF.at hg_3
  have hr_gb : 0 ≤ gb.toInt ∧ gb.toInt ≤ 1 := hIF.at hg_5
  have hr_gc : 0 ≤ gc.toInt ∧ gc.toInt ≤ 400 := hIF.at hg_6
  refine lv_aload_n hx hb dX13_readSum_0 rfl (lv_at hl 0 rfl) ?_
  refine mz_getR hx hb htl hown hK hM 61 (Nat.le_of_ble_eq_true rfl) (Nat.le_of_ble_eq_true rfl) (htl _ mw_239) (fun _ h9 => h9) dX13_readSum_1 ?_
  refine lv_iload_n hx hb dX13_readSum_4 rfl (lv_at hl 1 rfl) ?_
  refine lv_aload_n hx hb dX13_readSum_5 rfl (lv_at hl 0 rfl) ?_
  refine mz_getI hx hb htl hown hK hM 23 (Nat.le_of_ble_eq_true rfl) rfl (htl _ mw_670) (fun _ h9 => h9) dX13_readSum_6 (fun v9 e9 => ?_)
  refine fx_ti (v := gc) (e9.symm.trans hg_6) ?_
  refine mz_iast (x := gc) hx hb hK hD hM hS 61 (Nat.le_of_ble_eq_true rfl) rfl (nn := 120) rfl rfl (by omega) (by omega) dX13_readSum_9 (fun H locs R hM hS hw9 hj9 => ?_)
  have hIR := hIR.put hw9 hj9 trivial
  have hRR := mz_frp (K := [24, 25, 27, 28, 61]) (Fa := Ra) hj9 (fun _ _ => rfl) (by decide)
  have hre_24 : R 24 = Ra 24 := (hj9 24 (by decide)).trans (rfl : Ra 24 = Ra 24)
  have hre_25 : R 25 = Ra 25 := (hj9 25 (by decide)).trans (rfl : Ra 25 = Ra 25)
  have hre_61 : R 61 = upd (Ra 61) (p1 : Int32).toNatClampNeg gc := hw9.trans (congrArg (fun f => upd f (p1 : Int32).toNatClampNeg gc) (rfl : Ra 61 = Ra 61))
  refine lv_aload_n hx hb dX13_readSum_10 rfl (lv_at hl 0 rfl) ?_
  refine mz_getI hx hb htl hown hK hM 19 (Nat.le_of_ble_eq_true rfl) rfl (htl _ mw_668) (fun _ h9 => h9) dX13_readSum_11 (fun v9 e9 => ?_)
  refine fx_ti (v := gb) (e9.symm.trans hg_5) ?_
  refine lv_if_ne (tgt := 22) hx hb dX13_readSum_14 (by decide) (fun c9 => ?_) (fun c9 => ?_)
  · have hc2 : ¬ (gb.toInt = 0) := fun h9 => c9 ((fi_eq rfl (show (0 : Int32).toInt = 0 by decide)).mpr h9)
    refine lv_aload_n hx hb dX13_readSum_22 rfl (lv_at hl 0 rfl) ?_
    refine mz_getR hx hb htl hown hK hM 61 (Nat.le_of_ble_eq_true rfl) (Nat.le_of_ble_eq_true rfl) (htl _ mw_239) (fun _ h9 => h9) dX13_readSum_23 ?_
    refine lv_iload_n hx hb dX13_readSum_26 rfl (lv_at hl 1 rfl) ?_
    refine lv_iconst (v := 1) hx hb dX13_readSum_27 (by decide) ?_
    refine lv_iadd hx hb dX13_readSum_28 ?_
    refine tk_add rfl (show (1 : Int32).toInt = 1 by decide) (by omega) (by omega) (fun v3 h_v3 => ?_)
    refine lv_aload_n hx hb dX13_readSum_29 rfl (lv_at hl 0 rfl) ?_
    refine mz_getI hx hb htl hown hK hM 23 (Nat.le_of_ble_eq_true rfl) rfl (htl _ mw_670) (fun _ h9 => h9) dX13_readSum_30 (fun v9 e9 => ?_)
    refine fx_ti (v := gc) (e9.symm.trans hg_6) ?_
    refine mz_iast (x := gc) hx hb hK hD hM hS 61 (Nat.le_of_ble_eq_true rfl) rfl (nn := 120) rfl rfl (by omega) (by omega) dX13_readSum_33 (fun H locs R hM hS hw9 hj9 => ?_)
    have hIR := hIR.put hw9 hj9 trivial
    have hRR := mz_frp (K := [24, 25, 27, 28, 61]) (Fa := Ra) hj9 hRR (by decide)
    have hre_24 : R 24 = Ra 24 := (hj9 24 (by decide)).trans hre_24
    have hre_25 : R 25 = Ra 25 := (hj9 25 (by decide)).trans hre_25
    have hre_61 : R 61 = upd (upd (Ra 61) (p1 : Int32).toNatClampNeg gc) (v3 : Int32).toNatClampNeg gc := hw9.trans (congrArg (fun f => upd f (v3 : Int32).toNatClampNeg gc) hre_61)
    exact mz_vret hx hb hr hlocks ⟨hIF, hIG, hIR, (fun _ _ => rfl), hRR, (fun _ _ => rfl), (by rw [hg_0, hg_1]; omega), (by rw [hg_1]; omega), (by rw [hg_0, hg_1, hg_2]; omega), (by rw [hg_0, hg_1, hg_2, hg_4]; omega), (by rw [hg_0]; omega), (by rw [hg_6]; omega), (by rw [hg_0, hg_6]; omega), (by rw [hg_5]; omega), (by rw [hre_61, show (v3 : Int32).toNatClampNeg = p1.toInt.toNat + 1 by show v3.toInt.toNat = _; omega, hg_6]; rfl), (by rw [hg_5]; exact fun h9 => absurd h9 (by omega))⟩ hM hS dX13_readSum_34
  · have hc2 : gb.toInt = 0 := (fi_eq rfl (show (0 : Int32).toInt = 0 by decide)).mp c9
    refine lv_aload_n hx hb dX13_readSum_17 rfl (lv_at hl 0 rfl) ?_
    refine lv_iconst (v := 0) hx hb dX13_readSum_18 (by decide) ?_
    have hb24 := hre_24
    have hb25 := hre_25
    have hk_0 : (0 : Int32).toInt = 0 := by decide
    refine mz_Vv (As := [.int 0]) (rest := []) ⟨hx, hb, hml, hown, hts⟩ hK hM hS (k_X13_readExpression l D cy ld ad am hD _ _ _ _ 0 gf gt gs gp gw gb gc hIF hIG hIR hg_0 hg_1 hg_2 hg_3 hg_4 hg_5 hg_6 (by omega) (by omega) (by omega) (by omega) (by omega) (by omega) (by omega) (by omega)) ⟨callB_of 1 hts (wl_in mw_717) rfl rfl rfl (htl _ mw_5) (htl _ mw_714) hd_yX13_readExpression ⟨(Nat.le_of_ble_eq_true rfl), (Nat.le_of_ble_eq_true rfl)⟩, htl _ mw_715, htl _ mw_716⟩ rfl hl.1 rfl (Nat.le_of_ble_eq_true rfl) dX13_readSum_19 ⟨(Nat.le_of_ble_eq_true rfl), (Nat.le_of_ble_eq_true rfl)⟩ (fun H locs F G R S hpo hM hS => ?_)
    obtain ⟨hIF, hIG, hIR, hfr9, hrr9, hgr9, hpo5, hpo6, hpo10, hpo11, hpo12, hpo13, hpo14, hx15⟩ := hpo
    have hFF := mz_fr (K := [14, 15, 16, 18, 19, 23, 26, 29, 30]) (Fa := Fa) hfr9 (fun _ _ => rfl) (by decide)
    have hRR := mz_fr (K := [24, 25, 27, 28, 61]) (Fa := Ra) hrr9 hRR (by decide)
    have hGG := mz_fr (K := [17]) (Fa := Ga) hgr9 (fun _ _ => rfl) (by decide)
    have hre_61 : R 61 = upd (Ra 61) (p1 : Int32).toNatClampNeg gc := (hrr9 61 (by decide)).trans hre_61
    have hg_3 := (hfr9 13 (by decide)).trans hg_3
    obtain ⟨v18, hf17⟩ : ∃ z : Int32, F 14 = z := ⟨_, rfl⟩
    have hq_v18 := tk_rng v18
    rw [hf17] at hpo5 hpo10 hpo11 hpo12 hpo13
    have hr_v18 : 0 ≤ v18.toInt ∧ v18.toInt ≤ 400 := hIF.at hf17
    obtain ⟨v20, hf19⟩ : ∃ z : Int32, F 15 = z := ⟨_, rfl⟩
    have hq_v20 := tk_rng v20
    rw [hf19] at hpo5 hpo6 hpo10 hpo11
    have hr_v20 : 0 ≤ v20.toInt ∧ v20.toInt ≤ 400 := hIF.at hf19
    obtain ⟨v22, hf21⟩ : ∃ z : Int32, F 16 = z := ⟨_, rfl⟩
    have hq_v22 := tk_rng v22
    rw [hf21] at hpo10 hpo11
    have hr_v22 : 0 ≤ v22.toInt ∧ v22.toInt ≤ 3 := hIF.at hf21
    obtain ⟨w24, hf23⟩ : ∃ z : Int64, G 17 = z := ⟨_, rfl⟩
    have hq_w24 := tk_rngL w24
    rw [hf23] at hpo11
    obtain ⟨v26, hf25⟩ : ∃ z : Int32, F 19 = z := ⟨_, rfl⟩
    have hq_v26 := tk_rng v26
    have hr_v26 : 0 ≤ v26.toInt ∧ v26.toInt ≤ 1 := hIF.at hf25
    obtain ⟨v28, hf27⟩ : ∃ z : Int32, F 23 = z := ⟨_, rfl⟩
    have hq_v28 := tk_rng v28
    rw [hf27] at hpo13 hpo14
    have hr_v28 : 0 ≤ v28.toInt ∧ v28.toInt ≤ 400 := hIF.at hf27
    have hE : v26.toInt = 0 → WFC (R 24) (R 25) gc.toInt.toNat v28.toInt.toNat ∧ low gc.toInt.toNat (Ra 24) (R 24) ∧ low gc.toInt.toNat (Ra 25) (R 25) := fun h9 => by have h8 := hx15 (by rw [hf25]; exact h9); rw [hb24, hb25, hf27] at h8; exact h8
    refine lv_aload_n hx hb dX13_readSum_22 rfl (lv_at hl 0 rfl) ?_
    refine mz_getR hx hb htl hown hK hM 61 (Nat.le_of_ble_eq_true rfl) (Nat.le_of_ble_eq_true rfl) (htl _ mw_239) (fun _ h9 => h9) dX13_readSum_23 ?_
    refine lv_iload_n hx hb dX13_readSum_26 rfl (lv_at hl 1 rfl) ?_
    refine lv_iconst (v := 1) hx hb dX13_readSum_27 (by decide) ?_
    refine lv_iadd hx hb dX13_readSum_28 ?_
    refine tk_add rfl (show (1 : Int32).toInt = 1 by decide) (by omega) (by omega) (fun v29 h_v29 => ?_)
    refine lv_aload_n hx hb dX13_readSum_29 rfl (lv_at hl 0 rfl) ?_
    refine mz_getI hx hb htl hown hK hM 23 (Nat.le_of_ble_eq_true rfl) rfl (htl _ mw_670) (fun _ h9 => h9) dX13_readSum_30 (fun v9 e9 => ?_)
    refine fx_ti (v := v28) (e9.symm.trans hf27) ?_
    refine mz_iast (x := v28) hx hb hK hD hM hS 61 (Nat.le_of_ble_eq_true rfl) rfl (nn := 120) rfl rfl (by omega) (by omega) dX13_readSum_33 (fun H locs R hM hS hw9 hj9 => ?_)
    have hIR := hIR.put hw9 hj9 trivial
    have hE9 := hE
    have hE : v26.toInt = 0 → WFC (R 24) (R 25) gc.toInt.toNat v28.toInt.toNat ∧ low gc.toInt.toNat (Ra 24) (R 24) ∧ low gc.toInt.toNat (Ra 25) (R 25) := by rw [hj9 24 (by decide), hj9 25 (by decide)]; exact hE9
    have hRR := mz_frp (K := [24, 25, 27, 28, 61]) (Fa := Ra) hj9 hRR (by decide)
    have hre_61 : R 61 = upd (upd (Ra 61) (p1 : Int32).toNatClampNeg gc) (v29 : Int32).toNatClampNeg v28 := hw9.trans (congrArg (fun f => upd f (v29 : Int32).toNatClampNeg v28) hre_61)
    exact mz_vret hx hb hr hlocks ⟨hIF, hIG, hIR, hFF, hRR, hGG, (by rw [hf17, hf19]; omega), (by rw [hf19]; omega), (by rw [hf17, hf19, hf21]; omega), (by rw [hf17, hf19, hf21, hf23]; omega), (by rw [hf17]; omega), (by rw [hf27]; omega), (by rw [hf17, hf27]; omega), (by rw [hf25]; omega), (by rw [hre_61, show (v29 : Int32).toNatClampNeg = p1.toInt.toNat + 1 by show v29.toInt.toNat = _; omega, hf27]; rfl), (by rw [hf25, hf27]; exact hE)⟩ hM hS dX13_readSum_34
end
section
theorem hd_yX13_readSum : yX13_readSum.cls ≠ "java/lang/invoke/MethodHandle" ∧ yX13_readSum.cls ≠ "java/lang/invoke/VarHandle" ∧ (parseMethodDescriptor yX13_readSum.desc).map (fun d => d.parameters.length) = some 1 := by decide +kernel
theorem dX13_readBehind_0 : decode cX13_readBehind 0 = .ok (.aload_n 0, 1) := by decide +kernel
theorem dX13_readBehind_1 : decode cX13_readBehind 1 = .ok (.getfield 236, 3) := by decide +kernel
theorem dX13_readBehind_4 : decode cX13_readBehind 4 = .ok (.ifCond .ne 12, 3) := by decide +kernel
theorem dX13_readBehind_16 : decode cX13_readBehind 16 = .ok (.aload_n 0, 1) := by decide +kernel
theorem dX13_readBehind_17 : decode cX13_readBehind 17 = .ok (.iload_n 1, 1) := by decide +kernel
theorem dX13_readBehind_18 : decode cX13_readBehind 18 = .ok (.invokevirtual 593, 3) := by decide +kernel
theorem dX13_readBehind_21 : decode cX13_readBehind 21 = .ok (.return_, 1) := by decide +kernel
theorem dX13_readBehind_7 : decode cX13_readBehind 7 = .ok (.aload_n 0, 1) := by decide +kernel
theorem dX13_readBehind_8 : decode cX13_readBehind 8 = .ok (.aload_n 0, 1) := by decide +kernel
theorem dX13_readBehind_9 : decode cX13_readBehind 9 = .ok (.lload_n 2, 1) := by decide +kernel
theorem dX13_readBehind_10 : decode cX13_readBehind 10 = .ok (.invokevirtual 296, 3) := by decide +kernel
theorem dX13_readBehind_13 : decode cX13_readBehind 13 = .ok (.invokevirtual 271, 3) := by decide +kernel
set_option maxHeartbeats 4000000 in
set_option maxRecDepth 100000 in
theorem k_X13_readBehind (l : Launch) (D : va_G) (cy : Nat → ClassId) (ld ad : Nat → Nat) (am : Nat) (hD : mz_D ad am) (Fa : Nat → Int32) (Ga : Nat → Int64) (Ra : Nat → Nat → Int32) (Sa : Nat → Nat → Int64) (p1 : Int32) (p2 : Int64) (gf : Int32) (gt : Int32) (gs : Int32) (gp : Int32) (gw : Int64) (gb : Int32) (gc : Int32) (hIF : mz_IF false Fa) (hIG : mz_IG Ga) (hIR : mz_IR [] true Ra) (hg_0 : Fa 14 = gf) (hg_1 : Fa 15 = gt) (hg_2 : Fa 16 = gs) (hg_3 : Fa 13 = gp) (hg_4 : Ga 17 = gw) (hg_5 : Fa 19 = gb) (hg_6 : Fa 23 = gc) (hp_0 : 0 ≤ p1.toInt) (hp_1 : p1.toInt ≤ 118) (hp_2 : 0 ≤ (-1) * gf.toInt + gt.toInt) (hp_3 : 0 ≤ gp.toInt + (-1) * gt.toInt) (hp_4 : (1 ≤ gs.toInt → 0 ≤ (-1) * gf.toInt + gt.toInt + (-1))) (hp_5 : (27 ≤ gw.toInt → 1 ≤ gs.toInt → gs.toInt ≤ 1 → 0 ≤ (-1) * gf.toInt + gt.toInt + (-2))) (hp_6 : 0 ≤ (-1) * gc.toInt + gf.toInt) : Met l yX13_readBehind (wl yX13_readBehind cX13_readBehind 4 none) ({ frames := 11, cells := 0, slots := 0, locals := 700 }) (mz_p D cy ld ad am Fa Ga Ra Sa [.ref am, .int p1, .long p2]) (mz_w D cy ad am (fun F G R S => mz_IF false F ∧ mz_IG G ∧ mz_IR [] true R ∧ (∀ k : Nat, k ∉ ([14, 15, 16, 18, 19, 23, 26, 29, 30] : List Nat) → F k = Fa k) ∧ (∀ k : Nat, k ∉ ([24, 25, 27, 28, 61] : List Nat) → R k = Ra k) ∧ (∀ k : Nat, k ∉ ([17] : List Nat) → G k = Ga k) ∧ 0 ≤ (-1) * (F 14).toInt + (F 15).toInt ∧ 0 ≤ gp.toInt + (-1) * (F 15).toInt ∧ (1 ≤ (F 16).toInt → 0 ≤ (-1) * (F 14).toInt + (F 15).toInt + (-1)) ∧ (27 ≤ (G 17).toInt → 1 ≤ (F 16).toInt → (F 16).toInt ≤ 1 → 0 ≤ (-1) * (F 14).toInt + (F 15).toInt + (-2)) ∧ 0 ≤ (-1) * gf.toInt + (F 14).toInt ∧ 0 ≤ (-1) * gc.toInt + (F 23).toInt ∧ 0 ≤ (-1) * (F 23).toInt + (F 14).toInt ∧ 0 ≤ (-1) * gb.toInt + (F 19).toInt ∧ R 61 = upd (upd (Ra 61) p1.toInt.toNat gc) (p1.toInt.toNat + 1) (F 23) ∧ ((F 19).toInt = 0 → WFC (R 24) (R 25) gc.toInt.toNat (F 23).toInt.toNat ∧ low gc.toInt.toNat (Ra 24) (R 24) ∧ low gc.toInt.toNat (Ra 25) (R 25)))) 0 0 (mz_W ad am) := by
  refine mz_met (y := yX13_readBehind) (cc := cX13_readBehind) (maxL := 4) (ret := none) (av := [.ref am, .int p1, .long p2]) _ (by decide) (Nat.le_of_ble_eq_true rfl) ?_
  intro p e s m args below meth c hx hb hr hml hts htl hown hlocks hK H locs hM hS ls hl
  have hown : s.vm.findClass RX13 = some m.cls := hown
  have hl : lv_has ls 4 [(0, .ref am), (1, .int p1), (2, .long p2)] := hl
  have hr_p1 := tk_rng p1
  have hq_gf := tk_rng gf
  have hq_gt := tk_rng gt
  have hq_gs := tk_rng gs
  have hq_gp := tk_rng gp
  have hq_gw := tk_rngL gw
  have hq_gb := tk_rng gb
  have hq_gc := tk_rng gc
  have hr_gf : 0 ≤ gf.toInt ∧ gf.toInt ≤ 400 := hIF.at hg_0
  have hr_gt : 0 ≤ gt.toInt ∧ gt.toInt ≤ 400 := hIF.at hg_1
  have hr_gs : 0 ≤ gs.toInt ∧ gs.toInt ≤ 3 := hIF.at hg_2
  have hr_gp : 0 ≤ gp.toInt ∧ gp.toInt ≤ 400 := hIF.at hg_3
  have hr_gb : 0 ≤ gb.toInt ∧ gb.toInt ≤ 1 := hIF.at hg_5
  have hr_gc : 0 ≤ gc.toInt ∧ gc.toInt ≤ 400 := hIF.at hg_6
  refine lv_aload_n hx hb dX13_readBehind_0 rfl (lv_at hl 0 rfl) ?_
  refine mz_getI hx hb htl hown hK hM 19 (Nat.le_of_ble_eq_true rfl) rfl (htl _ mw_668) (fun _ h9 => h9) dX13_readBehind_1 (fun v9 e9 => ?_)
  refine fx_ti (v := gb) (e9.symm.trans hg_5) ?_
  refine lv_if_ne (tgt := 16) hx hb dX13_readBehind_4 (by decide) (fun c9 => ?_) (fun c9 => ?_)
  · have hc1 : ¬ (gb.toInt = 0) := fun h9 => c9 ((fi_eq rfl (show (0 : Int32).toInt = 0 by decide)).mpr h9)
    refine lv_aload_n hx hb dX13_readBehind_16 rfl (lv_at hl 0 rfl) ?_
    refine lv_iload_n hx hb dX13_readBehind_17 rfl (lv_at hl 1 rfl) ?_
    have hb24 := (rfl : Ra 24 = Ra 24)
    have hb25 := (rfl : Ra 25 = Ra 25)
    have hb61 := (rfl : Ra 61 = Ra 61)
    refine mz_Vv (As := [.int p1]) (rest := []) ⟨hx, hb, hml, hown, hts⟩ hK hM hS (k_X13_readSum l D cy ld ad am hD _ _ _ _ p1 gf gt gs gp gw gb gc hIF hIG hIR hg_0 hg_1 hg_2 hg_3 hg_4 hg_5 hg_6 (by omega) (by omega) (by omega) (by omega) (by omega) (by omega) (by omega)) ⟨callB_of 1 hts (wl_in mw_1025) rfl rfl rfl (htl _ mw_5) (htl _ mw_1022) hd_yX13_readSum ⟨(Nat.le_of_ble_eq_true rfl), (Nat.le_of_ble_eq_true rfl)⟩, htl _ mw_1023, htl _ mw_1024⟩ rfl hl.1 rfl (Nat.le_of_ble_eq_true rfl) dX13_readBehind_18 ⟨(Nat.le_of_ble_eq_true rfl), (Nat.le_of_ble_eq_true rfl)⟩ (fun H locs F G R S hpo hM hS => ?_)
    obtain ⟨hIF, hIG, hIR, hfr9, hrr9, hgr9, hpo2, hpo3, hpo4, hpo5, hpo6, hpo10, hpo11, hpo12, hx13, hx14⟩ := hpo
    have hFF := mz_fr (K := [14, 15, 16, 18, 19, 23, 26, 29, 30]) (Fa := Fa) hfr9 (fun _ _ => rfl) (by decide)
    have hRR := mz_fr (K := [24, 25, 27, 28, 61]) (Fa := Ra) hrr9 (fun _ _ => rfl) (by decide)
    have hGG := mz_fr (K := [17]) (Fa := Ga) hgr9 (fun _ _ => rfl) (by decide)
    have hg_3 := (hfr9 13 (by decide)).trans hg_3
    obtain ⟨v17, hf16⟩ : ∃ z : Int32, F 14 = z := ⟨_, rfl⟩
    have hq_v17 := tk_rng v17
    rw [hf16] at hpo2 hpo4 hpo5 hpo6 hpo11
    have hr_v17 : 0 ≤ v17.toInt ∧ v17.toInt ≤ 400 := hIF.at hf16
    obtain ⟨v19, hf18⟩ : ∃ z : Int32, F 15 = z := ⟨_, rfl⟩
    have hq_v19 := tk_rng v19
    rw [hf18] at hpo2 hpo3 hpo4 hpo5
    have hr_v19 : 0 ≤ v19.toInt ∧ v19.toInt ≤ 400 := hIF.at hf18
    obtain ⟨v21, hf20⟩ : ∃ z : Int32, F 16 = z := ⟨_, rfl⟩
    have hq_v21 := tk_rng v21
    rw [hf20] at hpo4 hpo5
    have hr_v21 : 0 ≤ v21.toInt ∧ v21.toInt ≤ 3 := hIF.at hf20
    obtain ⟨w23, hf22⟩ : ∃ z : Int64, G 17 = z := ⟨_, rfl⟩
    have hq_w23 := tk_rngL w23
    rw [hf22] at hpo5
    obtain ⟨v25, hf24⟩ : ∃ z : Int32, F 19 = z := ⟨_, rfl⟩
    have hq_v25 := tk_rng v25
    rw [hf24] at hpo12
    have hr_v25 : 0 ≤ v25.toInt ∧ v25.toInt ≤ 1 := hIF.at hf24
    obtain ⟨v27, hf26⟩ : ∃ z : Int32, F 23 = z := ⟨_, rfl⟩
    have hq_v27 := tk_rng v27
    rw [hf26] at hpo10 hpo11
    have hr_v27 : 0 ≤ v27.toInt ∧ v27.toInt ≤ 400 := hIF.at hf26
    exact mz_vret hx hb hr hlocks ⟨hIF, hIG, hIR, hFF, hRR, hGG, (by rw [hf16, hf18]; omega), (by rw [hf18]; omega), (by rw [hf16, hf18, hf20]; omega), (by rw [hf16, hf18, hf20, hf22]; omega), (by rw [hf16]; omega), (by rw [hf26]; omega), (by rw [hf16, hf26]; omega), (by rw [hf24]; omega), (by have h9 := hx13; rw [hb61] at h9; exact h9), (by have h9 := hx14; rw [hb24, hb25] at h9; exact h9)⟩ hM hS dX13_readBehind_21
  · have hc1 : gb.toInt = 0 := (fi_eq rfl (show (0 : Int32).toInt = 0 by decide)).mp c9
    refine lv_aload_n hx hb dX13_readBehind_7 rfl (lv_at hl 0 rfl) ?_
    refine lv_aload_n hx hb dX13_readBehind_8 rfl (lv_at hl 0 rfl) ?_
    refine lv_lload_n hx hb dX13_readBehind_9 rfl (lv_at hl 2 rfl) ?_
    have hb24 := (rfl : Ra 24 = Ra 24)
    have hb25 := (rfl : Ra 25 = Ra 25)
    have hb61 := (rfl : Ra 61 = Ra 61)
    refine mz_Vj (As := [.long p2]) (rest := [.ref am]) ⟨hx, hb, hml, hown, hts⟩ hK hM hS (k_X13_isWord l D cy ld ad am hD _ _ _ _ p2 gs gw hIF hIG hIR hg_2 hg_4) ⟨callB_of 1 hts (wl_in mw_709) rfl rfl rfl (htl _ mw_5) (htl _ mw_706) hd_yX13_isWord ⟨(Nat.le_of_ble_eq_true rfl), (Nat.le_of_ble_eq_true rfl)⟩, htl _ mw_707, htl _ mw_708⟩ rfl hl.1 rfl (Nat.le_of_ble_eq_true rfl) dX13_readBehind_10 ⟨(Nat.le_of_ble_eq_true rfl), (Nat.le_of_ble_eq_true rfl)⟩ (fun v28 H locs hpo hM hS => ?_)
    obtain ⟨hpo29, hpo30, hpo31, hpo32, hpo33⟩ := hpo
    have hq_v28 := tk_rng v28
    have hb24 := (rfl : Ra 24 = Ra 24)
    have hb25 := (rfl : Ra 25 = Ra 25)
    have hb61 := (rfl : Ra 61 = Ra 61)
    refine mz_Vv (As := [.int v28]) (rest := []) ⟨hx, hb, hml, hown, hts⟩ hK hM hS (k_X13_must l D cy ld ad am hD _ _ _ _ v28 gf gt gs gp gw gb hIF hIG hIR hg_0 hg_1 hg_2 hg_3 hg_4 hg_5 (by omega) (by omega) (by omega) (by omega) (by omega) (by omega)) ⟨callB_of 1 hts (wl_in mw_713) rfl rfl rfl (htl _ mw_5) (htl _ mw_710) hd_yX13_must ⟨(Nat.le_of_ble_eq_true rfl), (Nat.le_of_ble_eq_true rfl)⟩, htl _ mw_711, htl _ mw_712⟩ rfl hl.1 rfl (Nat.le_of_ble_eq_true rfl) dX13_readBehind_13 ⟨(Nat.le_of_ble_eq_true rfl), (Nat.le_of_ble_eq_true rfl)⟩ (fun H locs F G R S hpo hM hS => ?_)
    obtain ⟨hIF, hIG, hIR, hfr9, hrr9, hgr9, hpo35, hpo36, hpo37, hpo38, hpo39, hpo40, hpo41, hpo42⟩ := hpo
    have hFF := mz_fr (K := [14, 15, 16, 18, 19, 23, 26, 29, 30]) (Fa := Fa) hfr9 (fun _ _ => rfl) (by decide)
    have hRR := mz_fr (K := [24, 25, 27, 28, 61]) (Fa := Ra) hrr9 (fun _ _ => rfl) (by decide)
    have hGG := mz_fr (K := [17]) (Fa := Ga) hgr9 (fun _ _ => rfl) (by decide)
    have hre_24 : R 24 = Ra 24 := (hrr9 24 (by decide)).trans (rfl : Ra 24 = Ra 24)
    have hre_25 : R 25 = Ra 25 := (hrr9 25 (by decide)).trans (rfl : Ra 25 = Ra 25)
    have hre_61 : R 61 = Ra 61 := (hrr9 61 (by decide)).trans (rfl : Ra 61 = Ra 61)
    have hg_3 := (hfr9 13 (by decide)).trans hg_3
    have hg_6 := (hfr9 23 (by decide)).trans hg_6
    obtain ⟨v45, hf44⟩ : ∃ z : Int32, F 14 = z := ⟨_, rfl⟩
    have hq_v45 := tk_rng v45
    rw [hf44] at hpo35 hpo37 hpo38 hpo39 hpo41
    have hr_v45 : 0 ≤ v45.toInt ∧ v45.toInt ≤ 400 := hIF.at hf44
    obtain ⟨v47, hf46⟩ : ∃ z : Int32, F 15 = z := ⟨_, rfl⟩
    have hq_v47 := tk_rng v47
    rw [hf46] at hpo35 hpo36 hpo37 hpo38
    have hr_v47 : 0 ≤ v47.toInt ∧ v47.toInt ≤ 400 := hIF.at hf46
    obtain ⟨v49, hf48⟩ : ∃ z : Int32, F 16 = z := ⟨_, rfl⟩
    have hq_v49 := tk_rng v49
    rw [hf48] at hpo37 hpo38
    have hr_v49 : 0 ≤ v49.toInt ∧ v49.toInt ≤ 3 := hIF.at hf48
    obtain ⟨w51, hf50⟩ : ∃ z : Int64, G 17 = z := ⟨_, rfl⟩
    have hq_w51 := tk_rngL w51
    rw [hf50] at hpo38
    obtain ⟨v53, hf52⟩ : ∃ z : Int32, F 19 = z := ⟨_, rfl⟩
    have hq_v53 := tk_rng v53
    rw [hf52] at hpo40 hpo41 hpo42
    have hr_v53 : 0 ≤ v53.toInt ∧ v53.toInt ≤ 1 := hIF.at hf52
    refine lv_aload_n hx hb dX13_readBehind_16 rfl (lv_at hl 0 rfl) ?_
    refine lv_iload_n hx hb dX13_readBehind_17 rfl (lv_at hl 1 rfl) ?_
    have hb24 := hre_24
    have hb25 := hre_25
    have hb61 := hre_61
    refine mz_Vv (As := [.int p1]) (rest := []) ⟨hx, hb, hml, hown, hts⟩ hK hM hS (k_X13_readSum l D cy ld ad am hD _ _ _ _ p1 v45 v47 v49 gp w51 v53 gc hIF hIG hIR hf44 hf46 hf48 hg_3 hf50 hf52 hg_6 (by omega) (by omega) (by omega) (by omega) (by omega) (by omega) (by omega)) ⟨callB_of 1 hts (wl_in mw_1025) rfl rfl rfl (htl _ mw_5) (htl _ mw_1022) hd_yX13_readSum ⟨(Nat.le_of_ble_eq_true rfl), (Nat.le_of_ble_eq_true rfl)⟩, htl _ mw_1023, htl _ mw_1024⟩ rfl hl.1 rfl (Nat.le_of_ble_eq_true rfl) dX13_readBehind_18 ⟨(Nat.le_of_ble_eq_true rfl), (Nat.le_of_ble_eq_true rfl)⟩ (fun H locs F G R S hpo hM hS => ?_)
    obtain ⟨hIF, hIG, hIR, hfr9, hrr9, hgr9, hpo54, hpo55, hpo56, hpo57, hpo58, hpo59, hpo60, hpo61, hx62, hx63⟩ := hpo
    have hFF := mz_fr (K := [14, 15, 16, 18, 19, 23, 26, 29, 30]) (Fa := Fa) hfr9 hFF (by decide)
    have hRR := mz_fr (K := [24, 25, 27, 28, 61]) (Fa := Ra) hrr9 hRR (by decide)
    have hGG := mz_fr (K := [17]) (Fa := Ga) hgr9 hGG (by decide)
    have hg_3 := (hfr9 13 (by decide)).trans hg_3
    obtain ⟨v66, hf65⟩ : ∃ z : Int32, F 14 = z := ⟨_, rfl⟩
    have hq_v66 := tk_rng v66
    rw [hf65] at hpo54 hpo56 hpo57 hpo58 hpo60
    have hr_v66 : 0 ≤ v66.toInt ∧ v66.toInt ≤ 400 := hIF.at hf65
    obtain ⟨v68, hf67⟩ : ∃ z : Int32, F 15 = z := ⟨_, rfl⟩
    have hq_v68 := tk_rng v68
    rw [hf67] at hpo54 hpo55 hpo56 hpo57
    have hr_v68 : 0 ≤ v68.toInt ∧ v68.toInt ≤ 400 := hIF.at hf67
    obtain ⟨v70, hf69⟩ : ∃ z : Int32, F 16 = z := ⟨_, rfl⟩
    have hq_v70 := tk_rng v70
    rw [hf69] at hpo56 hpo57
    have hr_v70 : 0 ≤ v70.toInt ∧ v70.toInt ≤ 3 := hIF.at hf69
    obtain ⟨w72, hf71⟩ : ∃ z : Int64, G 17 = z := ⟨_, rfl⟩
    have hq_w72 := tk_rngL w72
    rw [hf71] at hpo57
    obtain ⟨v74, hf73⟩ : ∃ z : Int32, F 19 = z := ⟨_, rfl⟩
    have hq_v74 := tk_rng v74
    rw [hf73] at hpo61
    have hr_v74 : 0 ≤ v74.toInt ∧ v74.toInt ≤ 1 := hIF.at hf73
    obtain ⟨v76, hf75⟩ : ∃ z : Int32, F 23 = z := ⟨_, rfl⟩
    have hq_v76 := tk_rng v76
    rw [hf75] at hpo59 hpo60
    have hr_v76 : 0 ≤ v76.toInt ∧ v76.toInt ≤ 400 := hIF.at hf75
    exact mz_vret hx hb hr hlocks ⟨hIF, hIG, hIR, hFF, hRR, hGG, (by rw [hf65, hf67]; omega), (by rw [hf67]; omega), (by rw [hf65, hf67, hf69]; omega), (by rw [hf65, hf67, hf69, hf71]; omega), (by rw [hf65]; omega), (by rw [hf75]; omega), (by rw [hf65, hf75]; omega), (by rw [hf73]; omega), (by have h9 := hx62; rw [hb61] at h9; exact h9), (by have h9 := hx63; rw [hb24, hb25] at h9; exact h9)⟩ hM hS dX13_readBehind_21
end
