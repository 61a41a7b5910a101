theorem hd_yX13_findChampions : yX13_findChampions.cls ≠ "java/lang/invoke/MethodHandle" ∧ yX13_findChampions.cls ≠ "java/lang/invoke/VarHandle" ∧ (parseMethodDescriptor yX13_findChampions.desc).map (fun d => d.parameters.length) = some 0 := by decide +kernel
theorem dX13_champions_0 : decode cX13_champions 0 = .ok (.aload_n 0, 1) := by decide +kernel
theorem dX13_champions_1 : decode cX13_champions 1 = .ok (.iconst 0, 1) := by decide +kernel
theorem dX13_champions_2 : decode cX13_champions 2 = .ok (.putfield 170, 3) := by decide +kernel
theorem dX13_champions_5 : decode cX13_champions 5 = .ok (.iload_n 1, 1) := by decide +kernel
theorem dX13_champions_6 : decode cX13_champions 6 = .ok (.ifCond .lt 29, 3) := by decide +kernel
theorem dX13_champions_35 : decode cX13_champions 35 = .ok (.iconst (-1), 1) := by decide +kernel
theorem dX13_champions_36 : decode cX13_champions 36 = .ok (.ireturn, 1) := by decide +kernel
theorem dX13_champions_9 : decode cX13_champions 9 = .ok (.iload_n 1, 1) := by decide +kernel
theorem dX13_champions_10 : decode cX13_champions 10 = .ok (.iconst 1, 1) := by decide +kernel
theorem dX13_champions_11 : decode cX13_champions 11 = .ok (.if_icmp .le 26, 3) := by decide +kernel
theorem dX13_champions_37 : decode cX13_champions 37 = .ok (.aload_n 0, 1) := by decide +kernel
theorem dX13_champions_38 : decode cX13_champions 38 = .ok (.invokevirtual 551, 3) := by decide +kernel
theorem dX13_champions_41 : decode cX13_champions 41 = .ok (.istore_n 2, 1) := by decide +kernel
theorem dX13_champions_42 : decode cX13_champions 42 = .ok (.iload_n 1, 1) := by decide +kernel
theorem dX13_champions_43 : decode cX13_champions 43 = .ok (.iconst 2, 1) := by decide +kernel
theorem dX13_champions_44 : decode cX13_champions 44 = .ok (.if_icmp .ge 19, 3) := by decide +kernel
theorem dX13_champions_47 : decode cX13_champions 47 = .ok (.iload_n 1, 1) := by decide +kernel
theorem dX13_champions_48 : decode cX13_champions 48 = .ok (.ifCond .ne 10, 3) := by decide +kernel
theorem dX13_champions_58 : decode cX13_champions 58 = .ok (.aload_n 0, 1) := by decide +kernel
theorem dX13_champions_59 : decode cX13_champions 59 = .ok (.getfield 542, 3) := by decide +kernel
theorem dX13_champions_62 : decode cX13_champions 62 = .ok (.ireturn, 1) := by decide +kernel
theorem dX13_champions_51 : decode cX13_champions 51 = .ok (.aload_n 0, 1) := by decide +kernel
theorem dX13_champions_52 : decode cX13_champions 52 = .ok (.getfield 539, 3) := by decide +kernel
theorem dX13_champions_55 : decode cX13_champions 55 = .ok (.goto 7, 3) := by decide +kernel
theorem dX13_champions_14 : decode cX13_champions 14 = .ok (.aload_n 0, 1) := by decide +kernel
theorem dX13_champions_15 : decode cX13_champions 15 = .ok (.iload_n 1, 1) := by decide +kernel
theorem dX13_champions_16 : decode cX13_champions 16 = .ok (.iconst 2, 1) := by decide +kernel
theorem dX13_champions_17 : decode cX13_champions 17 = .ok (.isub, 1) := by decide +kernel
theorem dX13_champions_18 : decode cX13_champions 18 = .ok (.invokevirtual 201, 3) := by decide +kernel
theorem dX13_champions_21 : decode cX13_champions 21 = .ok (.ifCond .eq 14, 3) := by decide +kernel
theorem dX13_champions_24 : decode cX13_champions 24 = .ok (.aload_n 0, 1) := by decide +kernel
theorem dX13_champions_25 : decode cX13_champions 25 = .ok (.iload_n 1, 1) := by decide +kernel
theorem dX13_champions_26 : decode cX13_champions 26 = .ok (.iconst 2, 1) := by decide +kernel
theorem dX13_champions_27 : decode cX13_champions 27 = .ok (.isub, 1) := by decide +kernel
theorem dX13_champions_28 : decode cX13_champions 28 = .ok (.iconst 2, 1) := by decide +kernel
theorem dX13_champions_29 : decode cX13_champions 29 = .ok (.invokevirtual 207, 3) := by decide +kernel
theorem dX13_champions_32 : decode cX13_champions 32 = .ok (.ifCond .eq 5, 3) := by decide +kernel
theorem dX13_champions_63 : decode cX13_champions 63 = .ok (.iconst (-1), 1) := by decide +kernel
theorem dX13_champions_64 : decode cX13_champions 64 = .ok (.istore_n 3, 1) := by decide +kernel
theorem dX13_champions_65 : decode cX13_champions 65 = .ok (.iconst 0, 1) := by decide +kernel
theorem dX13_champions_66 : decode cX13_champions 66 = .ok (.istore 4, 2) := by decide +kernel
theorem dX13_champions_68 : decode cX13_champions 68 = .ok (.iload 4, 2) := by decide +kernel
theorem dX13_champions_70 : decode cX13_champions 70 = .ok (.iload_n 2, 1) := by decide +kernel
theorem dX13_champions_71 : decode cX13_champions 71 = .ok (.if_icmp .ge 51, 3) := by decide +kernel
theorem dX13_champions_122 : decode cX13_champions 122 = .ok (.iload_n 3, 1) := by decide +kernel
theorem dX13_champions_123 : decode cX13_champions 123 = .ok (.ireturn, 1) := by decide +kernel
theorem dX13_champions_74 : decode cX13_champions 74 = .ok (.aload_n 0, 1) := by decide +kernel
theorem dX13_champions_75 : decode cX13_champions 75 = .ok (.getfield 131, 3) := by decide +kernel
theorem dX13_champions_78 : decode cX13_champions 78 = .ok (.iload 4, 2) := by decide +kernel
theorem dX13_champions_80 : decode cX13_champions 80 = .ok (.iaload, 1) := by decide +kernel
theorem dX13_champions_81 : decode cX13_champions 81 = .ok (.iload_n 1, 1) := by decide +kernel
theorem dX13_champions_82 : decode cX13_champions 82 = .ok (.iconst 2, 1) := by decide +kernel
theorem dX13_champions_83 : decode cX13_champions 83 = .ok (.isub, 1) := by decide +kernel
theorem dX13_champions_115 : decode cX13_champions 115 = .ok (.istore_n 3, 1) := by decide +kernel
theorem dX13_champions_116 : decode cX13_champions 116 = .ok (.iinc 4 1, 3) := by decide +kernel
theorem dX13_champions_119 : decode cX13_champions 119 = .ok (.goto (-51), 3) := by decide +kernel
theorem dX13_champions_84 : decode cX13_champions 84 = .ok (.if_icmp .ne 30, 3) := by decide +kernel
theorem dX13_champions_114 : decode cX13_champions 114 = .ok (.iload_n 3, 1) := by decide +kernel
theorem dX13_champions_87 : decode cX13_champions 87 = .ok (.aload_n 0, 1) := by decide +kernel
theorem dX13_champions_88 : decode cX13_champions 88 = .ok (.getfield 137, 3) := by decide +kernel
theorem dX13_champions_91 : decode cX13_champions 91 = .ok (.iload 4, 2) := by decide +kernel
theorem dX13_champions_93 : decode cX13_champions 93 = .ok (.iaload, 1) := by decide +kernel
theorem dX13_champions_94 : decode cX13_champions 94 = .ok (.bipush 8, 2) := by decide +kernel
theorem dX13_champions_96 : decode cX13_champions 96 = .ok (.if_icmp .ne 8, 3) := by decide +kernel
theorem dX13_champions_104 : decode cX13_champions 104 = .ok (.aload_n 0, 1) := by decide +kernel
theorem dX13_champions_105 : decode cX13_champions 105 = .ok (.getfield 137, 3) := by decide +kernel
theorem dX13_champions_108 : decode cX13_champions 108 = .ok (.iload 4, 2) := by decide +kernel
theorem dX13_champions_110 : decode cX13_champions 110 = .ok (.iaload, 1) := by decide +kernel
theorem dX13_champions_111 : decode cX13_champions 111 = .ok (.goto 4, 3) := by decide +kernel
theorem dX13_champions_99 : decode cX13_champions 99 = .ok (.bipush 100, 2) := by decide +kernel
theorem dX13_champions_101 : decode cX13_champions 101 = .ok (.goto 14, 3) := by decide +kernel
set_option maxHeartbeats 4000000 in
set_option maxRecDepth 100000 in
theorem k_X13_champions (l : Launch) (D : va_G) (cy : Nat → ClassId) (ld ad : Nat → Nat) (am : Nat) (hD : mz_D ad am) (Fa : Nat → Int32) (Ga : Nat → Int64) (Ra : Nat → Nat → Int32) (Sa : Nat → Nat → Int64) (p1 : Int32) (hIF : mz_IF true Fa) (hIG : mz_IG Ga) (hIR : mz_IR [] true Ra) : Met l yX13_champions (wl yX13_champions cX13_champions 5 (some .int)) ({ frames := 14, cells := 0, slots := 0, locals := 910 }) (mz_p D cy ld ad am Fa Ga Ra Sa [.ref am, .int p1]) (mz_i D cy ad am (fun r F G R S => mz_IF true F ∧ mz_IG G ∧ mz_IR [] true R ∧ (∀ k : Nat, k ∉ ([0, 34, 38, 41, 53, 54] : List Nat) → F k = Fa k) ∧ (∀ k : Nat, k ∉ ([3, 6, 49, 50, 51, 52] : List Nat) → R k = Ra k) ∧ (∀ k : Nat, k ∉ ([39, 40, 47] : List Nat) → G k = Ga k) ∧ rK1 (Ra 3) (R 3))) 0 0 (mz_W ad am) := by
  refine mz_met (y := yX13_champions) (cc := cX13_champions) (maxL := 5) (ret := (some .int)) (av := [.ref am, .int p1]) _ (by decide) (Nat.le_of_ble_eq_true rfl) ?_
  intro p e s m args below meth c hx hb hr hml hts htl hown hlocks hK H locs hM hS ls hl
  have hown : s.vm.findClass RX13 = some m.cls := hown
  have hl : lv_has ls 5 [(0, .ref am), (1, .int p1)] := hl
  have hr_p1 := tk_rng p1
  refine lv_aload_n hx hb dX13_champions_0 rfl (lv_at hl 0 rfl) ?_
  refine lv_iconst (v := 0) hx hb dX13_champions_1 (by decide) ?_
  have hk_0 : (0 : Int32).toInt = 0 := by decide
  refine mz_putI (ty := .int) (x := 0) hx hb htl hown hK hD hM hS 0 (Nat.le_of_ble_eq_true rfl) rfl (htl _ mw_286) (fun _ h9 => h9) rfl (tyX13_ok 0 (by decide)) rfl rfl dX13_champions_2 (fun H locs F hM hS hf9 hj9 => ?_)
  have hIF := hIF.put hf9 hj9 (tk_rng _).1 (tk_rng _).2 (by decide)
  have hFF := mz_frp (K := [0, 34, 38, 41, 53, 54]) (Fa := Fa) hj9 (fun _ _ => rfl) (by decide)
  have hf2 := hf9
  refine lv_iload_n hx hb dX13_champions_5 rfl (lv_at hl 1 rfl) ?_
  refine lv_if_lt (tgt := 35) hx hb dX13_champions_6 (by decide) (fun c9 => ?_) (fun c9 => ?_)
  · have hc3 : p1.toInt < 0 := (fi_lt rfl (show (0 : Int32).toInt = 0 by decide)).mp c9
    refine lv_iconst (v := (-1)) hx hb dX13_champions_35 (by decide) ?_
    have hk_m1 : ((-1) : Int32).toInt = (-1) := by decide
    exact mz_iret (v := (-1)) hx hb hr rfl hlocks ⟨hIF, hIG, hIR, hFF, (fun _ _ => rfl), (fun _ _ => rfl), (rK1.refl rfl)⟩ hM hS dX13_champions_36
  · have hc3 : ¬ (p1.toInt < 0) := fun h9 => c9 ((fi_lt rfl (show (0 : Int32).toInt = 0 by decide)).mpr h9)
    refine lv_iload_n hx hb dX13_champions_9 rfl (lv_at hl 1 rfl) ?_
    refine lv_iconst (v := 1) hx hb dX13_champions_10 (by decide) ?_
    refine lv_icmp_le (tgt := 37) hx hb dX13_champions_11 (by decide) (fun c9 => ?_) (fun c9 => ?_)
    · have hc4 : p1.toInt ≤ 1 := (fi_le rfl (show (1 : Int32).toInt = 1 by decide)).mp c9
      refine lv_aload_n hx hb dX13_champions_37 rfl (lv_at hl 0 rfl) ?_
      obtain ⟨v6, hf5⟩ : ∃ z : Int32, Ra 3 0 = z := ⟨_, rfl⟩
      have hq_v6 := tk_rng v6
      have hr_v6 : 0 ≤ v6.toInt ∧ v6.toInt ≤ 8 := by have h9 := mz_r3c 0 (hIR.at 3) hf5 (by decide); unfold mE at h9; omega
      refine mz_Vi (As := []) (rest := []) ⟨hx, hb, hml, hown, hts⟩ hK hM hS (k_X13_findChampions l D cy ld ad am hD _ _ _ _ v6 hIF hIG hIR hf5) ⟨callB_of 0 hts (wl_in mw_1438) rfl rfl rfl (htl _ mw_5) (htl _ mw_1435) hd_yX13_findChampions ⟨(Nat.le_of_ble_eq_true rfl), (Nat.le_of_ble_eq_true rfl)⟩, htl _ mw_1436, htl _ mw_1437⟩ rfl hl.1 rfl (Nat.le_of_ble_eq_true rfl) dX13_champions_38 ⟨(Nat.le_of_ble_eq_true rfl), (Nat.le_of_ble_eq_true rfl)⟩ (fun v10 H locs F G R S hpo hM hS => ?_)
      obtain ⟨hIF, hIG, hIR, hfr9, hrr9, hgr9, hrel9, hpo11, hpo12, hpo13, hpo14⟩ := hpo
      have hq_v10 := tk_rng v10
      have hFF := mz_fr (K := [0, 34, 38, 41, 53, 54]) (Fa := Fa) hfr9 hFF (by decide)
      have hRR := mz_fr (K := [3, 6, 49, 50, 51, 52]) (Fa := Ra) hrr9 (fun _ _ => rfl) (by decide)
      have hGG := mz_fr (K := [39, 40, 47]) (Fa := Ga) hgr9 (fun _ _ => rfl) (by decide)
      have hrel := (rK1.refl rfl).trans hrel9
      have hf2 := (hfr9 0 (by decide)).trans hf2
      have hf5 : R 3 0 = _ := (hrel9 0 (by omega)).trans hf5
      refine lv_istore_n (lv' := [(2, .int v10), (0, .ref am), (1, .int p1)]) hx hb dX13_champions_41 rfl hl (by decide) rfl (fun ls hl => ?_)
      refine lv_iload_n hx hb dX13_champions_42 rfl (lv_at hl 2 rfl) ?_
      refine lv_iconst (v := 2) hx hb dX13_champions_43 (by decide) ?_
      refine lv_icmp_ge (tgt := 63) hx hb dX13_champions_44 (by decide) (fun c9 => absurd (show 2 ≤ p1.toInt from (fi_le (show (2 : Int32).toInt = 2 by decide) rfl).mp c9) (by omega)) (fun _ => ?_)
      refine lv_iload_n hx hb dX13_champions_47 rfl (lv_at hl 2 rfl) ?_
      refine lv_if_ne (tgt := 58) hx hb dX13_champions_48 (by decide) (fun c9 => ?_) (fun c9 => ?_)
      · have hc16 : ¬ (p1.toInt = 0) := fun h9 => c9 ((fi_eq rfl (show (0 : Int32).toInt = 0 by decide)).mpr h9)
        refine lv_aload_n hx hb dX13_champions_58 rfl (lv_at hl 1 rfl) ?_
        refine mz_getI hx hb htl hown hK hM 54 (Nat.le_of_ble_eq_true rfl) rfl (htl _ mw_1434) (fun _ h9 => h9) dX13_champions_59 (fun v18 hf17 => ?_)
        have hq_v18 := tk_rng v18
        exact mz_iret (v := v18) hx hb hr rfl hlocks ⟨hIF, hIG, hIR, hFF, hRR, hGG, hrel⟩ hM hS dX13_champions_62
      · have hc16 : p1.toInt = 0 := (fi_eq rfl (show (0 : Int32).toInt = 0 by decide)).mp c9
        refine lv_aload_n hx hb dX13_champions_51 rfl (lv_at hl 1 rfl) ?_
        refine mz_getI hx hb htl hown hK hM 53 (Nat.le_of_ble_eq_true rfl) rfl (htl _ mw_1433) (fun _ h9 => h9) dX13_champions_52 (fun v20 hf19 => ?_)
        have hq_v20 := tk_rng v20
        refine lv_goto (tgt := 62) hx hb dX13_champions_55 (by decide) ?_
        exact mz_iret (v := v20) hx hb hr rfl hlocks ⟨hIF, hIG, hIR, hFF, hRR, hGG, hrel⟩ hM hS dX13_champions_62
    · have hc4 : ¬ (p1.toInt ≤ 1) := fun h9 => c9 ((fi_le rfl (show (1 : Int32).toInt = 1 by decide)).mpr h9)
      refine lv_aload_n hx hb dX13_champions_14 rfl (lv_at hl 0 rfl) ?_
      refine lv_iload_n hx hb dX13_champions_15 rfl (lv_at hl 1 rfl) ?_
      refine lv_iconst (v := 2) hx hb dX13_champions_16 (by decide) ?_
      refine lv_isub hx hb dX13_champions_17 ?_
      refine tk_sub rfl (show (2 : Int32).toInt = 2 by decide) (by omega) (by omega) (fun v21 h_v21 => ?_)
      refine mz_Vj (As := [.int v21]) (rest := []) ⟨hx, hb, hml, hown, hts⟩ hK hM hS (k_X13_isSinger l D cy ld ad am hD _ _ _ _ v21 (hIF.weak) hIG hIR) ⟨callB_of 1 hts (wl_in mw_320) rfl rfl rfl (htl _ mw_5) (htl _ mw_317) hd_yX13_isSinger ⟨(Nat.le_of_ble_eq_true rfl), (Nat.le_of_ble_eq_true rfl)⟩, htl _ mw_318, htl _ mw_319⟩ rfl hl.1 rfl (Nat.le_of_ble_eq_true rfl) dX13_champions_18 ⟨(Nat.le_of_ble_eq_true rfl), (Nat.le_of_ble_eq_true rfl)⟩ (fun v22 H locs hpo hM hS => ?_)
      obtain ⟨hpo23, hpo24, hpo25, hpo26, hpo27⟩ := hpo
      have hq_v22 := tk_rng v22
      refine lv_if_eq (tgt := 35) hx hb dX13_champions_21 (by decide) (fun c9 => ?_) (fun c9 => ?_)
      · have hc29 : v22.toInt = 0 := (fi_eq rfl (show (0 : Int32).toInt = 0 by decide)).mp c9
        refine lv_iconst (v := (-1)) hx hb dX13_champions_35 (by decide) ?_
        have hk_m1 : ((-1) : Int32).toInt = (-1) := by decide
        exact mz_iret (v := (-1)) hx hb hr rfl hlocks ⟨hIF, hIG, hIR, hFF, (fun _ _ => rfl), (fun _ _ => rfl), (rK1.refl rfl)⟩ hM hS dX13_champions_36
      · have hc29 : ¬ (v22.toInt = 0) := fun h9 => c9 ((fi_eq rfl (show (0 : Int32).toInt = 0 by decide)).mpr h9)
        have hwk_30 : v21.toInt ≤ 7 := by omega
        refine lv_aload_n hx hb dX13_champions_24 rfl (lv_at hl 0 rfl) ?_
        refine lv_iload_n hx hb dX13_champions_25 rfl (lv_at hl 1 rfl) ?_
        refine lv_iconst (v := 2) hx hb dX13_champions_26 (by decide) ?_
        refine lv_isub hx hb dX13_champions_27 ?_
        refine tk_sub rfl (show (2 : Int32).toInt = 2 by decide) (by omega) (by omega) (fun v31 h_v31 => ?_)
        refine lv_iconst (v := 2) hx hb dX13_champions_28 (by decide) ?_
        have hk_2 : (2 : Int32).toInt = 2 := by decide
        refine mz_Vj (As := [.int v31, .int 2]) (rest := []) ⟨hx, hb, hml, hown, hts⟩ hK hM hS (k_X13_ofSinger_2 l D cy ld ad am hD _ _ _ _ v31 (hIF.weak) hIG hIR (by omega) (by omega)) ⟨callB_of 2 hts (wl_in mw_324) rfl rfl rfl (htl _ mw_5) (htl _ mw_321) hd_yX13_ofSinger ⟨(Nat.le_of_ble_eq_true rfl), (Nat.le_of_ble_eq_true rfl)⟩, htl _ mw_322, htl _ mw_323⟩ rfl hl.1 rfl (Nat.le_of_ble_eq_true rfl) dX13_champions_29 ⟨(Nat.le_of_ble_eq_true rfl), (Nat.le_of_ble_eq_true rfl)⟩ (fun v32 H locs hpo hM hS => ?_)
        obtain ⟨hpo33, hpo34⟩ := hpo
        have hq_v32 := tk_rng v32
        refine lv_if_eq (tgt := 37) hx hb dX13_champions_32 (by decide) (fun c9 => ?_) (fun c9 => ?_)
        · have hc36 : v32.toInt = 0 := (fi_eq rfl (show (0 : Int32).toInt = 0 by decide)).mp c9
          refine lv_aload_n hx hb dX13_champions_37 rfl (lv_at hl 0 rfl) ?_
          obtain ⟨v38, hf37⟩ : ∃ z : Int32, Ra 3 0 = z := ⟨_, rfl⟩
          have hq_v38 := tk_rng v38
          have hr_v38 : 0 ≤ v38.toInt ∧ v38.toInt ≤ 8 := by have h9 := mz_r3c 0 (hIR.at 3) hf37 (by decide); unfold mE at h9; omega
          refine mz_Vi (As := []) (rest := []) ⟨hx, hb, hml, hown, hts⟩ hK hM hS (k_X13_findChampions l D cy ld ad am hD _ _ _ _ v38 hIF hIG hIR hf37) ⟨callB_of 0 hts (wl_in mw_1438) rfl rfl rfl (htl _ mw_5) (htl _ mw_1435) hd_yX13_findChampions ⟨(Nat.le_of_ble_eq_true rfl), (Nat.le_of_ble_eq_true rfl)⟩, htl _ mw_1436, htl _ mw_1437⟩ rfl hl.1 rfl (Nat.le_of_ble_eq_true rfl) dX13_champions_38 ⟨(Nat.le_of_ble_eq_true rfl), (Nat.le_of_ble_eq_true rfl)⟩ (fun v39 H locs F G R S hpo hM hS => ?_)
          obtain ⟨hIF, hIG, hIR, hfr9, hrr9, hgr9, hrel9, hpo40, hpo41, hpo42, hpo43⟩ := hpo
          have hq_v39 := tk_rng v39
          have hFF := mz_fr (K := [0, 34, 38, 41, 53, 54]) (Fa := Fa) hfr9 hFF (by decide)
          have hRR := mz_fr (K := [3, 6, 49, 50, 51, 52]) (Fa := Ra) hrr9 (fun _ _ => rfl) (by decide)
          have hGG := mz_fr (K := [39, 40, 47]) (Fa := Ga) hgr9 (fun _ _ => rfl) (by decide)
          have hrel := (rK1.refl rfl).trans hrel9
          have hf2 := (hfr9 0 (by decide)).trans hf2
          have hf37 : R 3 0 = _ := (hrel9 0 (by omega)).trans hf37
          refine lv_istore_n (lv' := [(2, .int v39), (0, .ref am), (1, .int p1)]) hx hb dX13_champions_41 rfl hl (by decide) rfl (fun ls hl => ?_)
          refine lv_iload_n hx hb dX13_champions_42 rfl (lv_at hl 2 rfl) ?_
          refine lv_iconst (v := 2) hx hb dX13_champions_43 (by decide) ?_
          refine lv_icmp_ge (tgt := 63) hx hb dX13_champions_44 (by decide) (fun _ => ?_) (fun c9 => absurd ((fi_le (show (2 : Int32).toInt = 2 by decide) rfl).mpr (show 2 ≤ p1.toInt by omega)) c9)
          refine lv_iconst (v := (-1)) hx hb dX13_champions_63 (by decide) ?_
          refine lv_istore_n (lv' := [(3, .int (-1)), (2, .int v39), (0, .ref am), (1, .int p1)]) hx hb dX13_champions_64 rfl hl (by decide) rfl (fun ls hl => ?_)
          refine lv_iconst (v := 0) hx hb dX13_champions_65 (by decide) ?_
          refine lv_istore (lv' := [(4, .int 0), (3, .int (-1)), (2, .int v39), (0, .ref am), (1, .int p1)]) hx hb dX13_champions_66 hl (by decide) rfl (fun ls hl => ?_)
          have hl260 : ∀ (N_l260 : Nat) (v97 : Int32) (v98 : Int32), (0 ≤ v97.toInt) → (0 ≤ v39.toInt + (-1) * v97.toInt) → ((-1) * v97.toInt + 8 < (N_l260 : Int)) → ∀ ls : Array Slot, lv_has ls 5 [(4, .int v97), (3, .int v98), (2, .int v39), (0, .ref am), (1, .int p1)] → W p l e ({ frames := 14, cells := 0, slots := 0, locals := 910 }) s m args below meth c H locs 0 0 (MQ below (mz_i D cy ad am (fun r F G R S => mz_IF true F ∧ mz_IG G ∧ mz_IR [] true R ∧ (∀ k : Nat, k ∉ ([0, 34, 38, 41, 53, 54] : List Nat) → F k = Fa k) ∧ (∀ k : Nat, k ∉ ([3, 6, 49, 50, 51, 52] : List Nat) → R k = Ra k) ∧ (∀ k : Nat, k ∉ ([39, 40, 47] : List Nat) → G k = Ga k) ∧ rK1 (Ra 3) (R 3))) args s 0 0 (mz_W ad am)) (F0 m 68 ls []) := by
            intro N_l260
            induction N_l260 with
            | zero => intro v97 v98 hq0_l260 hq1_l260 hm_l260 ls hl; exfalso; omega
            | succ N_l260 ih_l260 =>
              intro v97 v98 hq0_l260 hq1_l260 hm_l260 ls hl
              refine lv_iload hx hb dX13_champions_68 (lv_at hl 0 rfl) ?_
              refine lv_iload_n hx hb dX13_champions_70 rfl (lv_at hl 2 rfl) ?_
              refine lv_icmp_ge (tgt := 122) hx hb dX13_champions_71 (by decide) (fun c9 => ?_) (fun c9 => ?_)
              · have hc261 : v39.toInt ≤ v97.toInt := (fi_le rfl rfl).mp c9
                refine lv_iload_n hx hb dX13_champions_122 rfl (lv_at hl 1 rfl) ?_
                exact mz_iret (v := v98) hx hb hr rfl hlocks ⟨hIF, hIG, hIR, hFF, hRR, hGG, hrel⟩ hM hS dX13_champions_123
              · have hc261 : ¬ (v39.toInt ≤ v97.toInt) := fun h9 => c9 ((fi_le rfl rfl).mpr h9)
                refine lv_aload_n hx hb dX13_champions_74 rfl (lv_at hl 3 rfl) ?_
                refine mz_getR hx hb htl hown hK hM 50 (Nat.le_of_ble_eq_true rfl) (Nat.le_of_ble_eq_true rfl) (htl _ mw_233) (fun _ h9 => h9) dX13_champions_75 ?_
                refine lv_iload hx hb dX13_champions_78 (lv_at hl 0 rfl) ?_
                refine mz_iald hx hb hK hM 50 (Nat.le_of_ble_eq_true rfl) rfl (nn := 8) rfl rfl (by omega) (by omega) dX13_champions_80 (fun v273 e_v273 => ?_)
                have hq_v273 := tk_rng v273
                have he_v273 : 0 ≤ v273.toInt ∧ v273.toInt ≤ 7 := mz_elg (n := 8) (hIR.at 50) e_v273 rfl (by omega) (by omega)
                refine lv_iload_n hx hb dX13_champions_81 rfl (lv_at hl 4 rfl) ?_
                refine lv_iconst (v := 2) hx hb dX13_champions_82 (by decide) ?_
                refine lv_isub hx hb dX13_champions_83 ?_
                refine tk_sub rfl (show (2 : Int32).toInt = 2 by decide) (by omega) (by omega) (fun v274 h_v274 => ?_)
                have hj280 : ∀ (v279 : Int32), ∀ ls : Array Slot, lv_has ls 5 [(4, .int v97), (2, .int v39), (0, .ref am), (1, .int p1)] → W p l e ({ frames := 14, cells := 0, slots := 0, locals := 910 }) s m args below meth c H locs 0 0 (MQ below (mz_i D cy ad am (fun r F G R S => mz_IF true F ∧ mz_IG G ∧ mz_IR [] true R ∧ (∀ k : Nat, k ∉ ([0, 34, 38, 41, 53, 54] : List Nat) → F k = Fa k) ∧ (∀ k : Nat, k ∉ ([3, 6, 49, 50, 51, 52] : List Nat) → R k = Ra k) ∧ (∀ k : Nat, k ∉ ([39, 40, 47] : List Nat) → G k = Ga k) ∧ rK1 (Ra 3) (R 3))) args s 0 0 (mz_W ad am)) (F0 m 115 ls [.int v279]) := by
                  intro v279  ls hl
                  refine lv_istore_n (lv' := [(3, .int v279), (4, .int v97), (2, .int v39), (0, .ref am), (1, .int p1)]) hx hb dX13_champions_115 rfl hl (by decide) rfl (fun ls hl => ?_)
                  obtain ⟨v281, h_v281, e_v281⟩ := tk_inc v97 1 (by decide) (by omega) (by omega)
                  refine lv_iinc (v := v281) (lv' := [(4, .int v281), (3, .int v279), (2, .int v39), (0, .ref am), (1, .int p1)]) hx hb dX13_champions_116 hl (k := 1) rfl e_v281 (by decide) rfl (fun ls hl => ?_)
                  refine lv_goto (tgt := 68) hx hb dX13_champions_119 (by decide) ?_
                  exact ih_l260 v281 v279 (by omega) (by omega) (by omega) _ (lv_sub hl [0, 1, 2, 3, 4] rfl)
                refine lv_icmp_ne (tgt := 114) hx hb dX13_champions_84 (by decide) (fun c9 => ?_) (fun c9 => ?_)
                · have hc275 : ¬ (v273.toInt = v274.toInt) := fun h9 => c9 ((fi_eq rfl rfl).mpr h9)
                  refine lv_iload_n hx hb dX13_champions_114 rfl (lv_at hl 1 rfl) ?_
                  exact hj280 v98 _ (lv_sub hl [0, 2, 3, 4] rfl)
                · have hc275 : v273.toInt = v274.toInt := (fi_eq rfl rfl).mp c9
                  refine lv_aload_n hx hb dX13_champions_87 rfl (lv_at hl 3 rfl) ?_
                  refine mz_getR hx hb htl hown hK hM 52 (Nat.le_of_ble_eq_true rfl) (Nat.le_of_ble_eq_true rfl) (htl _ mw_235) (fun _ h9 => h9) dX13_champions_88 ?_
                  refine lv_iload hx hb dX13_champions_91 (lv_at hl 0 rfl) ?_
                  refine mz_iald hx hb hK hM 52 (Nat.le_of_ble_eq_true rfl) rfl (nn := 8) rfl rfl (by omega) (by omega) dX13_champions_93 (fun v282 e_v282 => ?_)
                  have hq_v282 := tk_rng v282
                  refine lv_bipush (v := 8) hx hb dX13_champions_94 (by decide) ?_
                  refine lv_icmp_ne (tgt := 104) hx hb dX13_champions_96 (by decide) (fun c9 => ?_) (fun c9 => ?_)
                  · have hc283 : ¬ (v282.toInt = 8) := fun h9 => c9 ((fi_eq rfl (show (8 : Int32).toInt = 8 by decide)).mpr h9)
                    refine lv_aload_n hx hb dX13_champions_104 rfl (lv_at hl 3 rfl) ?_
                    refine mz_getR hx hb htl hown hK hM 52 (Nat.le_of_ble_eq_true rfl) (Nat.le_of_ble_eq_true rfl) (htl _ mw_235) (fun _ h9 => h9) dX13_champions_105 ?_
                    refine lv_iload hx hb dX13_champions_108 (lv_at hl 0 rfl) ?_
                    refine mz_iald hx hb hK hM 52 (Nat.le_of_ble_eq_true rfl) rfl (nn := 8) rfl rfl (by omega) (by omega) dX13_champions_110 (fun v9 e9 => ?_)
                    refine fx_ti (v := v282) (e9.symm.trans e_v282) ?_
                    refine lv_goto (tgt := 115) hx hb dX13_champions_111 (by decide) ?_
                    exact hj280 v282 _ (lv_sub hl [0, 2, 3, 4] rfl)
                  · have hc283 : v282.toInt = 8 := (fi_eq rfl (show (8 : Int32).toInt = 8 by decide)).mp c9
                    refine lv_bipush (v := 100) hx hb dX13_champions_99 (by decide) ?_
                    refine lv_goto (tgt := 115) hx hb dX13_champions_101 (by decide) ?_
                    have hk_100 : (100 : Int32).toInt = 100 := by decide
                    exact hj280 100 _ (lv_sub hl [0, 2, 3, 4] rfl)
          have hk_0 : (0 : Int32).toInt = 0 := by decide
          have hk_m1 : ((-1) : Int32).toInt = (-1) := by decide
          exact hl260 9 0 (-1) (by omega) (by omega) (by omega) _ (lv_sub hl [0, 1, 2, 3, 4] rfl)
        · have hc36 : ¬ (v32.toInt = 0) := fun h9 => c9 ((fi_eq rfl (show (0 : Int32).toInt = 0 by decide)).mpr h9)
          refine lv_iconst (v := (-1)) hx hb dX13_champions_35 (by decide) ?_
          have hk_m1 : ((-1) : Int32).toInt = (-1) := by decide
          exact mz_iret (v := (-1)) hx hb hr rfl hlocks ⟨hIF, hIG, hIR, hFF, (fun _ _ => rfl), (fun _ _ => rfl), (rK1.refl rfl)⟩ hM hS dX13_champions_36
