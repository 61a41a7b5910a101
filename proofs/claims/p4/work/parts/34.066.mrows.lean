section
theorem hd_yX13_reckonAll : yX13_reckonAll.cls ≠ "java/lang/invoke/MethodHandle" ∧ yX13_reckonAll.cls ≠ "java/lang/invoke/VarHandle" ∧ (parseMethodDescriptor yX13_reckonAll.desc).map (fun d => d.parameters.length) = some 2 := by decide +kernel
theorem dX13_isSo_0 : decode cX13_isSo 0 = .ok (.aload_n 0, 1) := by decide +kernel
theorem dX13_isSo_1 : decode cX13_isSo 1 = .ok (.getfield 13, 3) := by decide +kernel
theorem dX13_isSo_4 : decode cX13_isSo 4 = .ok (.iload_n 1, 1) := by decide +kernel
theorem dX13_isSo_5 : decode cX13_isSo 5 = .ok (.iconst 5, 1) := by decide +kernel
theorem dX13_isSo_6 : decode cX13_isSo 6 = .ok (.iadd, 1) := by decide +kernel
theorem dX13_isSo_7 : decode cX13_isSo 7 = .ok (.iaload, 1) := by decide +kernel
theorem dX13_isSo_8 : decode cX13_isSo 8 = .ok (.aload_n 0, 1) := by decide +kernel
theorem dX13_isSo_9 : decode cX13_isSo 9 = .ok (.getfield 13, 3) := by decide +kernel
theorem dX13_isSo_12 : decode cX13_isSo 12 = .ok (.iload_n 1, 1) := by decide +kernel
theorem dX13_isSo_13 : decode cX13_isSo 13 = .ok (.bipush 6, 2) := by decide +kernel
theorem dX13_isSo_15 : decode cX13_isSo 15 = .ok (.iadd, 1) := by decide +kernel
theorem dX13_isSo_16 : decode cX13_isSo 16 = .ok (.iaload, 1) := by decide +kernel
theorem dX13_isSo_17 : decode cX13_isSo 17 = .ok (.if_icmp .ge 42, 3) := by decide +kernel
theorem dX13_isSo_59 : decode cX13_isSo 59 = .ok (.aload_n 0, 1) := by decide +kernel
theorem dX13_isSo_60 : decode cX13_isSo 60 = .ok (.getfield 13, 3) := by decide +kernel
theorem dX13_isSo_63 : decode cX13_isSo 63 = .ok (.iload_n 1, 1) := by decide +kernel
theorem dX13_isSo_64 : decode cX13_isSo 64 = .ok (.iaload, 1) := by decide +kernel
theorem dX13_isSo_65 : decode cX13_isSo 65 = .ok (.iconst 3, 1) := by decide +kernel
theorem dX13_isSo_66 : decode cX13_isSo 66 = .ok (.if_icmp .eq 44, 3) := by decide +kernel
theorem dX13_isSo_110 : decode cX13_isSo 110 = .ok (.iconst 1, 1) := by decide +kernel
theorem dX13_isSo_111 : decode cX13_isSo 111 = .ok (.ireturn, 1) := by decide +kernel
theorem dX13_isSo_69 : decode cX13_isSo 69 = .ok (.aload_n 0, 1) := by decide +kernel
theorem dX13_isSo_70 : decode cX13_isSo 70 = .ok (.aload_n 0, 1) := by decide +kernel
theorem dX13_isSo_71 : decode cX13_isSo 71 = .ok (.getfield 13, 3) := by decide +kernel
theorem dX13_isSo_74 : decode cX13_isSo 74 = .ok (.iload_n 1, 1) := by decide +kernel
theorem dX13_isSo_75 : decode cX13_isSo 75 = .ok (.iconst 3, 1) := by decide +kernel
theorem dX13_isSo_76 : decode cX13_isSo 76 = .ok (.iadd, 1) := by decide +kernel
theorem dX13_isSo_77 : decode cX13_isSo 77 = .ok (.iaload, 1) := by decide +kernel
theorem dX13_isSo_78 : decode cX13_isSo 78 = .ok (.aload_n 0, 1) := by decide +kernel
theorem dX13_isSo_79 : decode cX13_isSo 79 = .ok (.getfield 13, 3) := by decide +kernel
theorem dX13_isSo_82 : decode cX13_isSo 82 = .ok (.iload_n 1, 1) := by decide +kernel
theorem dX13_isSo_83 : decode cX13_isSo 83 = .ok (.iconst 4, 1) := by decide +kernel
theorem dX13_isSo_84 : decode cX13_isSo 84 = .ok (.iadd, 1) := by decide +kernel
theorem dX13_isSo_85 : decode cX13_isSo 85 = .ok (.iaload, 1) := by decide +kernel
theorem dX13_isSo_86 : decode cX13_isSo 86 = .ok (.invokevirtual 403, 3) := by decide +kernel
theorem dX13_isSo_89 : decode cX13_isSo 89 = .ok (.aload_n 0, 1) := by decide +kernel
theorem dX13_isSo_90 : decode cX13_isSo 90 = .ok (.aload_n 0, 1) := by decide +kernel
theorem dX13_isSo_91 : decode cX13_isSo 91 = .ok (.getfield 400, 3) := by decide +kernel
theorem dX13_isSo_94 : decode cX13_isSo 94 = .ok (.putfield 406, 3) := by decide +kernel
theorem dX13_isSo_97 : decode cX13_isSo 97 = .ok (.aload_n 0, 1) := by decide +kernel
theorem dX13_isSo_98 : decode cX13_isSo 98 = .ok (.getfield 386, 3) := by decide +kernel
theorem dX13_isSo_101 : decode cX13_isSo 101 = .ok (.ifCond .ne 7, 3) := by decide +kernel
theorem dX13_isSo_108 : decode cX13_isSo 108 = .ok (.iconst 0, 1) := by decide +kernel
theorem dX13_isSo_109 : decode cX13_isSo 109 = .ok (.ireturn, 1) := by decide +kernel
theorem dX13_isSo_104 : decode cX13_isSo 104 = .ok (.iconst 1, 1) := by decide +kernel
theorem dX13_isSo_105 : decode cX13_isSo 105 = .ok (.goto 4, 3) := by decide +kernel
theorem dX13_isSo_20 : decode cX13_isSo 20 = .ok (.aload_n 0, 1) := by decide +kernel
theorem dX13_isSo_21 : decode cX13_isSo 21 = .ok (.aload_n 0, 1) := by decide +kernel
theorem dX13_isSo_22 : decode cX13_isSo 22 = .ok (.getfield 13, 3) := by decide +kernel
theorem dX13_isSo_25 : decode cX13_isSo 25 = .ok (.iload_n 1, 1) := by decide +kernel
theorem dX13_isSo_26 : decode cX13_isSo 26 = .ok (.iconst 5, 1) := by decide +kernel
theorem dX13_isSo_27 : decode cX13_isSo 27 = .ok (.iadd, 1) := by decide +kernel
theorem dX13_isSo_28 : decode cX13_isSo 28 = .ok (.iaload, 1) := by decide +kernel
theorem dX13_isSo_29 : decode cX13_isSo 29 = .ok (.aload_n 0, 1) := by decide +kernel
theorem dX13_isSo_30 : decode cX13_isSo 30 = .ok (.getfield 13, 3) := by decide +kernel
theorem dX13_isSo_33 : decode cX13_isSo 33 = .ok (.iload_n 1, 1) := by decide +kernel
theorem dX13_isSo_34 : decode cX13_isSo 34 = .ok (.bipush 6, 2) := by decide +kernel
theorem dX13_isSo_36 : decode cX13_isSo 36 = .ok (.iadd, 1) := by decide +kernel
theorem dX13_isSo_37 : decode cX13_isSo 37 = .ok (.iaload, 1) := by decide +kernel
theorem dX13_isSo_38 : decode cX13_isSo 38 = .ok (.invokevirtual 403, 3) := by decide +kernel
theorem dX13_isSo_41 : decode cX13_isSo 41 = .ok (.aload_n 0, 1) := by decide +kernel
theorem dX13_isSo_42 : decode cX13_isSo 42 = .ok (.getfield 386, 3) := by decide +kernel
theorem dX13_isSo_45 : decode cX13_isSo 45 = .ok (.ifCond .ne 12, 3) := by decide +kernel
theorem dX13_isSo_57 : decode cX13_isSo 57 = .ok (.iconst 0, 1) := by decide +kernel
theorem dX13_isSo_58 : decode cX13_isSo 58 = .ok (.ireturn, 1) := by decide +kernel
theorem dX13_isSo_48 : decode cX13_isSo 48 = .ok (.aload_n 0, 1) := by decide +kernel
theorem dX13_isSo_49 : decode cX13_isSo 49 = .ok (.getfield 400, 3) := by decide +kernel
theorem dX13_isSo_52 : decode cX13_isSo 52 = .ok (.lconst 0, 1) := by decide +kernel
theorem dX13_isSo_53 : decode cX13_isSo 53 = .ok (.lcmp, 1) := by decide +kernel
theorem dX13_isSo_54 : decode cX13_isSo 54 = .ok (.ifCond .ne 5, 3) := by decide +kernel
set_option maxHeartbeats 4000000 in
set_option maxRecDepth 100000 in
theorem k_X13_isSo (l : Launch) (D : va_G) (cy : Nat → ClassId) (ld ad : Nat → Nat) (am : Nat) (hD : mz_D ad am) (Fa : Nat → Int32) (Ga : Nat → Int64) (Ra : Nat → Nat → Int32) (Sa : Nat → Nat → Int64) (p1 : Int32) (gl : Int32) (zo za : Nat → Int32) (hIF : mz_IF true Fa) (hIG : mz_IG Ga) (hIR : mz_IR [] true Ra) (hg_0 : Fa 34 = gl) (hp_0 : 160 ≤ p1.toInt) (hp_1 : p1.toInt ≤ 5500) (hx_0 : WFX zo za (Ra 3 (p1.toInt.toNat + 3)) (Ra 3 (p1.toInt.toNat + 4)) ∧ WFX zo za (Ra 3 (p1.toInt.toNat + 5)) (Ra 3 (p1.toInt.toNat + 6))) (hx_1 : ∀ j : Nat, j < 400 → Ra 3 (gl.toInt.toNat + 98 + 2 * j) = zo j ∧ Ra 3 (gl.toInt.toNat + 98 + 2 * j + 1) = za j) : Met l yX13_isSo (wl yX13_isSo cX13_isSo 2 (some .boolean)) ({ frames := 6, cells := 0, slots := 0, locals := 350 }) (mz_p D cy ld ad am Fa Ga Ra Sa [.ref am, .int p1]) (mz_i D cy ad am (fun r F G R S => mz_IF true F ∧ mz_IG G ∧ mz_IR [] true R ∧ (∀ k : Nat, k ∉ ([38] : List Nat) → F k = Fa k) ∧ (∀ k : Nat, k ∉ ([] : List Nat) → R k = Ra k) ∧ (∀ k : Nat, k ∉ ([39, 40] : List Nat) → G k = Ga k) ∧ 0 ≤ r.toInt ∧ r.toInt ≤ 1 ∧ 0 ≤ r.toInt ∧ r.toInt ≤ 1)) 0 0 (mz_W ad am) := by
  refine mz_met (y := yX13_isSo) (cc := cX13_isSo) (maxL := 2) (ret := (some .boolean)) (av := [.ref am, .int p1]) _ (by decide) (Nat.le_of_ble_eq_true rfl) ?_
  intro p e s m args below meth c hx hb hr hml hts htl hown hlocks hK H locs hM hS ls hl
  have hown : s.vm.findClass RX13 = some m.cls := hown
  have hl : lv_has ls 2 [(0, .ref am), (1, .int p1)] := hl
  have hr_p1 := tk_rng p1
  have hq_gl := tk_rng gl
  have hr_gl : 0 ≤ gl.toInt ∧ gl.toInt ≤ 4660 := hIF.at hg_0
  refine lv_aload_n hx hb dX13_isSo_0 rfl (lv_at hl 0 rfl) ?_
  refine mz_getR hx hb htl hown hK hM 3 (Nat.le_of_ble_eq_true rfl) (Nat.le_of_ble_eq_true rfl) (htl _ mw_188) (fun _ h9 => h9) dX13_isSo_1 ?_
  refine lv_iload_n hx hb dX13_isSo_4 rfl (lv_at hl 1 rfl) ?_
  refine lv_iconst (v := 5) hx hb dX13_isSo_5 (by decide) ?_
  refine lv_iadd hx hb dX13_isSo_6 ?_
  refine tk_add rfl (show (5 : Int32).toInt = 5 by decide) (by omega) (by omega) (fun v1 h_v1 => ?_)
  refine mz_iald hx hb hK hM 3 (Nat.le_of_ble_eq_true rfl) rfl (nn := 5560) rfl rfl (by omega) (by omega) dX13_isSo_7 (fun v2 e_v2 => ?_)
  have hq_v2 := tk_rng v2
  refine lv_aload_n hx hb dX13_isSo_8 rfl (lv_at hl 0 rfl) ?_
  refine mz_getR hx hb htl hown hK hM 3 (Nat.le_of_ble_eq_true rfl) (Nat.le_of_ble_eq_true rfl) (htl _ mw_188) (fun _ h9 => h9) dX13_isSo_9 ?_
  refine lv_iload_n hx hb dX13_isSo_12 rfl (lv_at hl 1 rfl) ?_
  refine lv_bipush (v := 6) hx hb dX13_isSo_13 (by decide) ?_
  refine lv_iadd hx hb dX13_isSo_15 ?_
  refine tk_add rfl (show (6 : Int32).toInt = 6 by decide) (by omega) (by omega) (fun v3 h_v3 => ?_)
  refine mz_iald hx hb hK hM 3 (Nat.le_of_ble_eq_true rfl) rfl (nn := 5560) rfl rfl (by omega) (by omega) dX13_isSo_16 (fun v4 e_v4 => ?_)
  have hq_v4 := tk_rng v4
  refine lv_icmp_ge (tgt := 59) hx hb dX13_isSo_17 (by decide) (fun c9 => ?_) (fun c9 => ?_)
  · have hc5 : v4.toInt ≤ v2.toInt := (fi_le rfl rfl).mp c9
    refine lv_aload_n hx hb dX13_isSo_59 rfl (lv_at hl 0 rfl) ?_
    refine mz_getR hx hb htl hown hK hM 3 (Nat.le_of_ble_eq_true rfl) (Nat.le_of_ble_eq_true rfl) (htl _ mw_188) (fun _ h9 => h9) dX13_isSo_60 ?_
    refine lv_iload_n hx hb dX13_isSo_63 rfl (lv_at hl 1 rfl) ?_
    refine mz_iald hx hb hK hM 3 (Nat.le_of_ble_eq_true rfl) rfl (nn := 5560) rfl rfl (by omega) (by omega) dX13_isSo_64 (fun v6 e_v6 => ?_)
    have hq_v6 := tk_rng v6
    refine lv_iconst (v := 3) hx hb dX13_isSo_65 (by decide) ?_
    refine lv_icmp_eq (tgt := 110) hx hb dX13_isSo_66 (by decide) (fun c9 => ?_) (fun c9 => ?_)
    · have hc10 : v6.toInt = 3 := (fi_eq rfl (show (3 : Int32).toInt = 3 by decide)).mp c9
      refine lv_iconst (v := 1) hx hb dX13_isSo_110 (by decide) ?_
      have hk_1 : (1 : Int32).toInt = 1 := by decide
      exact mz_iret (v := 1) hx hb hr rfl hlocks ⟨hIF, hIG, hIR, (fun _ _ => rfl), (fun _ _ => rfl), (fun _ _ => rfl), (by omega), (by omega), (by omega), (by omega)⟩ hM hS dX13_isSo_111
    · have hc10 : ¬ (v6.toInt = 3) := fun h9 => c9 ((fi_eq rfl (show (3 : Int32).toInt = 3 by decide)).mpr h9)
      refine lv_aload_n hx hb dX13_isSo_69 rfl (lv_at hl 0 rfl) ?_
      refine lv_aload_n hx hb dX13_isSo_70 rfl (lv_at hl 0 rfl) ?_
      refine mz_getR hx hb htl hown hK hM 3 (Nat.le_of_ble_eq_true rfl) (Nat.le_of_ble_eq_true rfl) (htl _ mw_188) (fun _ h9 => h9) dX13_isSo_71 ?_
      refine lv_iload_n hx hb dX13_isSo_74 rfl (lv_at hl 1 rfl) ?_
      refine lv_iconst (v := 3) hx hb dX13_isSo_75 (by decide) ?_
      refine lv_iadd hx hb dX13_isSo_76 ?_
      refine tk_add rfl (show (3 : Int32).toInt = 3 by decide) (by omega) (by omega) (fun v11 h_v11 => ?_)
      refine mz_iald hx hb hK hM 3 (Nat.le_of_ble_eq_true rfl) rfl (nn := 5560) rfl rfl (by omega) (by omega) dX13_isSo_77 (fun v12 e_v12 => ?_)
      have hq_v12 := tk_rng v12
      refine lv_aload_n hx hb dX13_isSo_78 rfl (lv_at hl 0 rfl) ?_
      refine mz_getR hx hb htl hown hK hM 3 (Nat.le_of_ble_eq_true rfl) (Nat.le_of_ble_eq_true rfl) (htl _ mw_188) (fun _ h9 => h9) dX13_isSo_79 ?_
      refine lv_iload_n hx hb dX13_isSo_82 rfl (lv_at hl 1 rfl) ?_
      refine lv_iconst (v := 4) hx hb dX13_isSo_83 (by decide) ?_
      refine lv_iadd hx hb dX13_isSo_84 ?_
      refine tk_add rfl (show (4 : Int32).toInt = 4 by decide) (by omega) (by omega) (fun v13 h_v13 => ?_)
      refine mz_iald hx hb hK hM 3 (Nat.le_of_ble_eq_true rfl) rfl (nn := 5560) rfl rfl (by omega) (by omega) dX13_isSo_85 (fun v14 e_v14 => ?_)
      have hq_v14 := tk_rng v14
      obtain ⟨v16, hf15⟩ : ∃ z : Int32, Fa 20 = z := ⟨_, rfl⟩
      have hq_v16 := tk_rng v16
      have hr_v16 : v16.toInt = 0 := hIF.zero hf15
      have hIF := hIF.weak
      refine mz_Vv (As := [.int v12, .int v14]) (rest := []) ⟨hx, hb, hml, hown, hts⟩ hK hM hS (k_X13_reckonAll l D cy ld ad am hD _ _ _ _ v12 v14 v16 gl zo za hIF hIG hIR hf15 hg_0 (by have h9 := hx_0.1; rw [(show Ra 3 (p1.toInt.toNat + 3) = v12 by rw [show p1.toInt.toNat + 3 = (v11 : Int32).toNatClampNeg by show _ = v11.toInt.toNat; omega]; exact e_v12), (show Ra 3 (p1.toInt.toNat + 4) = v14 by rw [show p1.toInt.toNat + 4 = (v13 : Int32).toNatClampNeg by show _ = v13.toInt.toNat; omega]; exact e_v14)] at h9; exact h9) (fun _ => hx_1) (fun h9 => absurd (show v16.toInt = 0 by omega) h9)) ⟨callB_of 2 hts (wl_in mw_1056) rfl rfl rfl (htl _ mw_5) (htl _ mw_1053) hd_yX13_reckonAll ⟨(Nat.le_of_ble_eq_true rfl), (Nat.le_of_ble_eq_true rfl)⟩, htl _ mw_1054, htl _ mw_1055⟩ rfl hl.1 rfl (Nat.le_of_ble_eq_true rfl) dX13_isSo_86 ⟨(Nat.le_of_ble_eq_true rfl), (Nat.le_of_ble_eq_true rfl)⟩ (fun H locs F G R S hpo hM hS => ?_)
      obtain ⟨hIF, hIG, hIR, hfr9, hrr9, hgr9⟩ := hpo
      have hFF := mz_fr (K := [38]) (Fa := Fa) hfr9 (fun _ _ => rfl) (by decide)
      have hRR := mz_fr (K := []) (Fa := Ra) hrr9 (fun _ _ => rfl) (by decide)
      have hGG := mz_fr (K := [39, 40]) (Fa := Ga) hgr9 (fun _ _ => rfl) (by decide)
      have e_v2 : R 3 (v1 : Int32).toNatClampNeg = _ := (congrFun (hrr9 3 (by decide)) _).trans e_v2
      have e_v4 : R 3 (v3 : Int32).toNatClampNeg = _ := (congrFun (hrr9 3 (by decide)) _).trans e_v4
      have e_v6 : R 3 (p1 : Int32).toNatClampNeg = _ := (congrFun (hrr9 3 (by decide)) _).trans e_v6
      have e_v12 : R 3 (v11 : Int32).toNatClampNeg = _ := (congrFun (hrr9 3 (by decide)) _).trans e_v12
      have e_v14 : R 3 (v13 : Int32).toNatClampNeg = _ := (congrFun (hrr9 3 (by decide)) _).trans e_v14
      have hg_0 := (hfr9 34 (by decide)).trans hg_0
      have hf15 := (hfr9 20 (by decide)).trans hf15
      have hIF := hIF.full hf15 (by omega)
      refine lv_aload_n hx hb dX13_isSo_89 rfl (lv_at hl 0 rfl) ?_
      refine lv_aload_n hx hb dX13_isSo_90 rfl (lv_at hl 0 rfl) ?_
      refine mz_getJ hx hb htl hown hK hM 39 (Nat.le_of_ble_eq_true rfl) rfl (htl _ mw_1052) (fun _ h9 => h9) dX13_isSo_91 (fun w18 e_w18 => ?_)
      have hr_w18 := tk_rngL w18
      refine mz_putJ (ty := .long) (x := w18) hx hb htl hown hK hD hM hS 40 (Nat.le_of_ble_eq_true rfl) rfl (htl _ mw_1108) (fun _ h9 => h9) rfl (tyX13_ok 40 (by decide)) rfl rfl dX13_isSo_94 (fun H locs G hM hS hf9 hj9 => ?_)
      have hIG := hIG.put hj9 (by decide)
      have hGG := mz_frp (K := [39, 40]) (Fa := Ga) hj9 hGG (by decide)
      have e_w18 := (hj9 39 (by decide)).trans e_w18
      have hf20 := hf9
      refine lv_aload_n hx hb dX13_isSo_97 rfl (lv_at hl 0 rfl) ?_
      refine mz_getI hx hb htl hown hK hM 38 (Nat.le_of_ble_eq_true rfl) rfl (htl _ mw_1051) (fun _ h9 => h9) dX13_isSo_98 (fun v22 hf21 => ?_)
      have hq_v22 := tk_rng v22
      have hr_v22 : 0 ≤ v22.toInt ∧ v22.toInt ≤ 1 := hIF.at hf21
      refine lv_if_ne (tgt := 108) hx hb dX13_isSo_101 (by decide) (fun c9 => ?_) (fun c9 => ?_)
      · have hc23 : ¬ (v22.toInt = 0) := fun h9 => c9 ((fi_eq rfl (show (0 : Int32).toInt = 0 by decide)).mpr h9)
        refine lv_iconst (v := 0) hx hb dX13_isSo_108 (by decide) ?_
        have hk_0 : (0 : Int32).toInt = 0 := by decide
        exact mz_iret (v := 0) hx hb hr rfl hlocks ⟨hIF, hIG, hIR, hFF, hRR, hGG, (by omega), (by omega), (by omega), (by omega)⟩ hM hS dX13_isSo_109
      · have hc23 : v22.toInt = 0 := (fi_eq rfl (show (0 : Int32).toInt = 0 by decide)).mp c9
        refine lv_iconst (v := 1) hx hb dX13_isSo_104 (by decide) ?_
        refine lv_goto (tgt := 109) hx hb dX13_isSo_105 (by decide) ?_
        have hk_1 : (1 : Int32).toInt = 1 := by decide
        exact mz_iret (v := 1) hx hb hr rfl hlocks ⟨hIF, hIG, hIR, hFF, hRR, hGG, (by omega), (by omega), (by omega), (by omega)⟩ hM hS dX13_isSo_109
  · have hc5 : ¬ (v4.toInt ≤ v2.toInt) := fun h9 => c9 ((fi_le rfl rfl).mpr h9)
    refine lv_aload_n hx hb dX13_isSo_20 rfl (lv_at hl 0 rfl) ?_
    refine lv_aload_n hx hb dX13_isSo_21 rfl (lv_at hl 0 rfl) ?_
    refine mz_getR hx hb htl hown hK hM 3 (Nat.le_of_ble_eq_true rfl) (Nat.le_of_ble_eq_true rfl) (htl _ mw_188) (fun _ h9 => h9) dX13_isSo_22 ?_
    refine lv_iload_n hx hb dX13_isSo_25 rfl (lv_at hl 1 rfl) ?_
    refine lv_iconst (v := 5) hx hb dX13_isSo_26 (by decide) ?_
    refine lv_iadd hx hb dX13_isSo_27 ?_
    refine tk_add rfl (show (5 : Int32).toInt = 5 by decide) (by omega) (by omega) (fun v24 h_v24 => ?_)
    refine mz_iald hx hb hK hM 3 (Nat.le_of_ble_eq_true rfl) rfl (nn := 5560) rfl rfl (by omega) (by omega) dX13_isSo_28 (fun v25 e_v25 => ?_)
    have hq_v25 := tk_rng v25
    refine lv_aload_n hx hb dX13_isSo_29 rfl (lv_at hl 0 rfl) ?_
    refine mz_getR hx hb htl hown hK hM 3 (Nat.le_of_ble_eq_true rfl) (Nat.le_of_ble_eq_true rfl) (htl _ mw_188) (fun _ h9 => h9) dX13_isSo_30 ?_
    refine lv_iload_n hx hb dX13_isSo_33 rfl (lv_at hl 1 rfl) ?_
    refine lv_bipush (v := 6) hx hb dX13_isSo_34 (by decide) ?_
    refine lv_iadd hx hb dX13_isSo_36 ?_
    refine tk_add rfl (show (6 : Int32).toInt = 6 by decide) (by omega) (by omega) (fun v26 h_v26 => ?_)
    refine mz_iald hx hb hK hM 3 (Nat.le_of_ble_eq_true rfl) rfl (nn := 5560) rfl rfl (by omega) (by omega) dX13_isSo_37 (fun v27 e_v27 => ?_)
    have hq_v27 := tk_rng v27
    obtain ⟨v29, hf28⟩ : ∃ z : Int32, Fa 20 = z := ⟨_, rfl⟩
    have hq_v29 := tk_rng v29
    have hr_v29 : v29.toInt = 0 := hIF.zero hf28
    have hIF := hIF.weak
    refine mz_Vv (As := [.int v25, .int v27]) (rest := []) ⟨hx, hb, hml, hown, hts⟩ hK hM hS (k_X13_reckonAll l D cy ld ad am hD _ _ _ _ v25 v27 v29 gl zo za hIF hIG hIR hf28 hg_0 (by have h9 := hx_0.2; rw [(show Ra 3 (p1.toInt.toNat + 5) = v25 by rw [show p1.toInt.toNat + 5 = (v24 : Int32).toNatClampNeg by show _ = v24.toInt.toNat; omega]; exact e_v25), (show Ra 3 (p1.toInt.toNat + 6) = v27 by rw [show p1.toInt.toNat + 6 = (v26 : Int32).toNatClampNeg by show _ = v26.toInt.toNat; omega]; exact e_v27)] at h9; exact h9) (fun _ => hx_1) (fun h9 => absurd (show v29.toInt = 0 by omega) h9)) ⟨callB_of 2 hts (wl_in mw_1056) rfl rfl rfl (htl _ mw_5) (htl _ mw_1053) hd_yX13_reckonAll ⟨(Nat.le_of_ble_eq_true rfl), (Nat.le_of_ble_eq_true rfl)⟩, htl _ mw_1054, htl _ mw_1055⟩ rfl hl.1 rfl (Nat.le_of_ble_eq_true rfl) dX13_isSo_38 ⟨(Nat.le_of_ble_eq_true rfl), (Nat.le_of_ble_eq_true rfl)⟩ (fun H locs F G R S hpo hM hS => ?_)
    obtain ⟨hIF, hIG, hIR, hfr9, hrr9, hgr9⟩ := hpo
    have hFF := mz_fr (K := [38]) (Fa := Fa) hfr9 (fun _ _ => rfl) (by decide)
    have hRR := mz_fr (K := []) (Fa := Ra) hrr9 (fun _ _ => rfl) (by decide)
    have hGG := mz_fr (K := [39, 40]) (Fa := Ga) hgr9 (fun _ _ => rfl) (by decide)
    have e_v2 : R 3 (v1 : Int32).toNatClampNeg = _ := (congrFun (hrr9 3 (by decide)) _).trans e_v2
    have e_v4 : R 3 (v3 : Int32).toNatClampNeg = _ := (congrFun (hrr9 3 (by decide)) _).trans e_v4
    have e_v25 : R 3 (v24 : Int32).toNatClampNeg = _ := (congrFun (hrr9 3 (by decide)) _).trans e_v25
    have e_v27 : R 3 (v26 : Int32).toNatClampNeg = _ := (congrFun (hrr9 3 (by decide)) _).trans e_v27
    have hg_0 := (hfr9 34 (by decide)).trans hg_0
    have hf28 := (hfr9 20 (by decide)).trans hf28
    have hIF := hIF.full hf28 (by omega)
    refine lv_aload_n hx hb dX13_isSo_41 rfl (lv_at hl 0 rfl) ?_
    refine mz_getI hx hb htl hown hK hM 38 (Nat.le_of_ble_eq_true rfl) rfl (htl _ mw_1051) (fun _ h9 => h9) dX13_isSo_42 (fun v32 hf31 => ?_)
    have hq_v32 := tk_rng v32
    have hr_v32 : 0 ≤ v32.toInt ∧ v32.toInt ≤ 1 := hIF.at hf31
    refine lv_if_ne (tgt := 57) hx hb dX13_isSo_45 (by decide) (fun c9 => ?_) (fun c9 => ?_)
    · have hc33 : ¬ (v32.toInt = 0) := fun h9 => c9 ((fi_eq rfl (show (0 : Int32).toInt = 0 by decide)).mpr h9)
      refine lv_iconst (v := 0) hx hb dX13_isSo_57 (by decide) ?_
      have hk_0 : (0 : Int32).toInt = 0 := by decide
      exact mz_iret (v := 0) hx hb hr rfl hlocks ⟨hIF, hIG, hIR, hFF, hRR, hGG, (by omega), (by omega), (by omega), (by omega)⟩ hM hS dX13_isSo_58
    · have hc33 : v32.toInt = 0 := (fi_eq rfl (show (0 : Int32).toInt = 0 by decide)).mp c9
      refine lv_aload_n hx hb dX13_isSo_48 rfl (lv_at hl 0 rfl) ?_
      refine mz_getJ hx hb htl hown hK hM 39 (Nat.le_of_ble_eq_true rfl) rfl (htl _ mw_1052) (fun _ h9 => h9) dX13_isSo_49 (fun w34 e_w34 => ?_)
      have hr_w34 := tk_rngL w34
      refine lv_lconst (v := 0) hx hb dX13_isSo_52 (by decide) ?_
      refine W.lcmp hx hb dX13_isSo_53 ?_
      refine lv_if_ne (tgt := 59) hx hb dX13_isSo_54 (by decide) (fun c9 => ?_) (fun c9 => ?_)
      · have hc35 : ¬ (w34.toInt = 0) := fun h9 => c9 (((lg_cmp_eq _ _).trans (fl_eq rfl (show (0 : Int64).toInt = 0 by decide))).mpr h9)
        refine lv_aload_n hx hb dX13_isSo_59 rfl (lv_at hl 0 rfl) ?_
        refine mz_getR hx hb htl hown hK hM 3 (Nat.le_of_ble_eq_true rfl) (Nat.le_of_ble_eq_true rfl) (htl _ mw_188) (fun _ h9 => h9) dX13_isSo_60 ?_
        refine lv_iload_n hx hb dX13_isSo_63 rfl (lv_at hl 1 rfl) ?_
        refine mz_iald hx hb hK hM 3 (Nat.le_of_ble_eq_true rfl) rfl (nn := 5560) rfl rfl (by omega) (by omega) dX13_isSo_64 (fun v36 e_v36 => ?_)
        have hq_v36 := tk_rng v36
        refine lv_iconst (v := 3) hx hb dX13_isSo_65 (by decide) ?_
        refine lv_icmp_eq (tgt := 110) hx hb dX13_isSo_66 (by decide) (fun c9 => ?_) (fun c9 => ?_)
        · have hc37 : v36.toInt = 3 := (fi_eq rfl (show (3 : Int32).toInt = 3 by decide)).mp c9
          refine lv_iconst (v := 1) hx hb dX13_isSo_110 (by decide) ?_
          have hk_1 : (1 : Int32).toInt = 1 := by decide
          exact mz_iret (v := 1) hx hb hr rfl hlocks ⟨hIF, hIG, hIR, hFF, hRR, hGG, (by omega), (by omega), (by omega), (by omega)⟩ hM hS dX13_isSo_111
        · have hc37 : ¬ (v36.toInt = 3) := fun h9 => c9 ((fi_eq rfl (show (3 : Int32).toInt = 3 by decide)).mpr h9)
          refine lv_aload_n hx hb dX13_isSo_69 rfl (lv_at hl 0 rfl) ?_
          refine lv_aload_n hx hb dX13_isSo_70 rfl (lv_at hl 0 rfl) ?_
          refine mz_getR hx hb htl hown hK hM 3 (Nat.le_of_ble_eq_true rfl) (Nat.le_of_ble_eq_true rfl) (htl _ mw_188) (fun _ h9 => h9) dX13_isSo_71 ?_
          refine lv_iload_n hx hb dX13_isSo_74 rfl (lv_at hl 1 rfl) ?_
          refine lv_iconst (v := 3) hx hb dX13_isSo_75 (by decide) ?_
          refine lv_iadd hx hb dX13_isSo_76 ?_
          refine tk_add rfl (show (3 : Int32).toInt = 3 by decide) (by omega) (by omega) (fun v38 h_v38 => ?_)
          refine mz_iald hx hb hK hM 3 (Nat.le_of_ble_eq_true rfl) rfl (nn := 5560) rfl rfl (by omega) (by omega) dX13_isSo_77 (fun v39 e_v39 => ?_)
          have hq_v39 := tk_rng v39
          refine lv_aload_n hx hb dX13_isSo_78 rfl (lv_at hl 0 rfl) ?_
          refine mz_getR hx hb htl hown hK hM 3 (Nat.le_of_ble_eq_true rfl) (Nat.le_of_ble_eq_true rfl) (htl _ mw_188) (fun _ h9 => h9) dX13_isSo_79 ?_
          refine lv_iload_n hx hb dX13_isSo_82 rfl (lv_at hl 1 rfl) ?_
          refine lv_iconst (v := 4) hx hb dX13_isSo_83 (by decide) ?_
          refine lv_iadd hx hb dX13_isSo_84 ?_
          refine tk_add rfl (show (4 : Int32).toInt = 4 by decide) (by omega) (by omega) (fun v40 h_v40 => ?_)
          refine mz_iald hx hb hK hM 3 (Nat.le_of_ble_eq_true rfl) rfl (nn := 5560) rfl rfl (by omega) (by omega) dX13_isSo_85 (fun v41 e_v41 => ?_)
          have hq_v41 := tk_rng v41
          have hIF := hIF.weak
          refine mz_Vv (As := [.int v39, .int v41]) (rest := []) ⟨hx, hb, hml, hown, hts⟩ hK hM hS (k_X13_reckonAll l D cy ld ad am hD _ _ _ _ v39 v41 v29 gl zo za hIF hIG hIR hf28 hg_0 (by have h9 := hx_0.1; rw [(show Ra 3 (p1.toInt.toNat + 3) = v39 by rw [show p1.toInt.toNat + 3 = (v38 : Int32).toNatClampNeg by show _ = v38.toInt.toNat; omega]; exact (congrFun (hRR 3 (by decide)) _).symm.trans e_v39), (show Ra 3 (p1.toInt.toNat + 4) = v41 by rw [show p1.toInt.toNat + 4 = (v40 : Int32).toNatClampNeg by show _ = v40.toInt.toNat; omega]; exact (congrFun (hRR 3 (by decide)) _).symm.trans e_v41)] at h9; exact h9) (fun _ j hj => by rw [hRR 3 (by decide)]; exact hx_1 j hj) (fun h9 => absurd (show v29.toInt = 0 by omega) h9)) ⟨callB_of 2 hts (wl_in mw_1056) rfl rfl rfl (htl _ mw_5) (htl _ mw_1053) hd_yX13_reckonAll ⟨(Nat.le_of_ble_eq_true rfl), (Nat.le_of_ble_eq_true rfl)⟩, htl _ mw_1054, htl _ mw_1055⟩ rfl hl.1 rfl (Nat.le_of_ble_eq_true rfl) dX13_isSo_86 ⟨(Nat.le_of_ble_eq_true rfl), (Nat.le_of_ble_eq_true rfl)⟩ (fun H locs F G R S hpo hM hS => ?_)
          obtain ⟨hIF, hIG, hIR, hfr9, hrr9, hgr9⟩ := hpo
          have hFF := mz_fr (K := [38]) (Fa := Fa) hfr9 hFF (by decide)
          have hRR := mz_fr (K := []) (Fa := Ra) hrr9 hRR (by decide)
          have hGG := mz_fr (K := [39, 40]) (Fa := Ga) hgr9 hGG (by decide)
          have e_v2 : R 3 (v1 : Int32).toNatClampNeg = _ := (congrFun (hrr9 3 (by decide)) _).trans e_v2
          have e_v4 : R 3 (v3 : Int32).toNatClampNeg = _ := (congrFun (hrr9 3 (by decide)) _).trans e_v4
          have e_v25 : R 3 (v24 : Int32).toNatClampNeg = _ := (congrFun (hrr9 3 (by decide)) _).trans e_v25
          have e_v27 : R 3 (v26 : Int32).toNatClampNeg = _ := (congrFun (hrr9 3 (by decide)) _).trans e_v27
          have e_v36 : R 3 (p1 : Int32).toNatClampNeg = _ := (congrFun (hrr9 3 (by decide)) _).trans e_v36
          have e_v39 : R 3 (v38 : Int32).toNatClampNeg = _ := (congrFun (hrr9 3 (by decide)) _).trans e_v39
          have e_v41 : R 3 (v40 : Int32).toNatClampNeg = _ := (congrFun (hrr9 3 (by decide)) _).trans e_v41
          have hg_0 := (hfr9 34 (by decide)).trans hg_0
          have hf28 := (hfr9 20 (by decide)).trans hf28
          have hIF := hIF.full hf28 (by omega)
          refine lv_aload_n hx hb dX13_isSo_89 rfl (lv_at hl 0 rfl) ?_
          refine lv_aload_n hx hb dX13_isSo_90 rfl (lv_at hl 0 rfl) ?_
          refine mz_getJ hx hb htl hown hK hM 39 (Nat.le_of_ble_eq_true rfl) rfl (htl _ mw_1052) (fun _ h9 => h9) dX13_isSo_91 (fun w43 e_w43 => ?_)
          have hr_w43 := tk_rngL w43
          refine mz_putJ (ty := .long) (x := w43) hx hb htl hown hK hD hM hS 40 (Nat.le_of_ble_eq_true rfl) rfl (htl _ mw_1108) (fun _ h9 => h9) rfl (tyX13_ok 40 (by decide)) rfl rfl dX13_isSo_94 (fun H locs G hM hS hf9 hj9 => ?_)
          have hIG := hIG.put hj9 (by decide)
          have hGG := mz_frp (K := [39, 40]) (Fa := Ga) hj9 hGG (by decide)
          have e_w43 := (hj9 39 (by decide)).trans e_w43
          have hf45 := hf9
          refine lv_aload_n hx hb dX13_isSo_97 rfl (lv_at hl 0 rfl) ?_
          refine mz_getI hx hb htl hown hK hM 38 (Nat.le_of_ble_eq_true rfl) rfl (htl _ mw_1051) (fun _ h9 => h9) dX13_isSo_98 (fun v47 hf46 => ?_)
          have hq_v47 := tk_rng v47
          have hr_v47 : 0 ≤ v47.toInt ∧ v47.toInt ≤ 1 := hIF.at hf46
          refine lv_if_ne (tgt := 108) hx hb dX13_isSo_101 (by decide) (fun c9 => ?_) (fun c9 => ?_)
          · have hc48 : ¬ (v47.toInt = 0) := fun h9 => c9 ((fi_eq rfl (show (0 : Int32).toInt = 0 by decide)).mpr h9)
            refine lv_iconst (v := 0) hx hb dX13_isSo_108 (by decide) ?_
            have hk_0 : (0 : Int32).toInt = 0 := by decide
            exact mz_iret (v := 0) hx hb hr rfl hlocks ⟨hIF, hIG, hIR, hFF, hRR, hGG, (by omega), (by omega), (by omega), (by omega)⟩ hM hS dX13_isSo_109
          · have hc48 : v47.toInt = 0 := (fi_eq rfl (show (0 : Int32).toInt = 0 by decide)).mp c9
            refine lv_iconst (v := 1) hx hb dX13_isSo_104 (by decide) ?_
            refine lv_goto (tgt := 109) hx hb dX13_isSo_105 (by decide) ?_
            have hk_1 : (1 : Int32).toInt = 1 := by decide
            exact mz_iret (v := 1) hx hb hr rfl hlocks ⟨hIF, hIG, hIR, hFF, hRR, hGG, (by omega), (by omega), (by omega), (by omega)⟩ hM hS dX13_isSo_109
      · have hc35 : w34.toInt = 0 := ((lg_cmp_eq _ _).trans (fl_eq rfl (show (0 : Int64).toInt = 0 by decide))).mp c9
        refine lv_iconst (v := 0) hx hb dX13_isSo_57 (by decide) ?_
        have hk_0 : (0 : Int32).toInt = 0 := by decide
        exact mz_iret (v := 0) hx hb hr rfl hlocks ⟨hIF, hIG, hIR, hFF, hRR, hGG, (by omega), (by omega), (by omega), (by omega)⟩ hM hS dX13_isSo_58
end
section
theorem hd_yX13_isSo : yX13_isSo.cls ≠ "java/lang/invoke/MethodHandle" ∧ yX13_isSo.cls ≠ "java/lang/invoke/VarHandle" ∧ (parseMethodDescriptor yX13_isSo.desc).map (fun d => d.parameters.length) = some 1 := by decide +kernel
theorem dX13_tells_0 : decode cX13_tells 0 = .ok (.aload_n 0, 1) := by decide +kernel
theorem dX13_tells_1 : decode cX13_tells 1 = .ok (.getfield 13, 3) := by decide +kernel
theorem dX13_tells_4 : decode cX13_tells 4 = .ok (.iconst 5, 1) := by decide +kernel
theorem dX13_tells_5 : decode cX13_tells 5 = .ok (.iaload, 1) := by decide +kernel
theorem dX13_tells_6 : decode cX13_tells 6 = .ok (.iconst (-1), 1) := by decide +kernel
theorem dX13_tells_7 : decode cX13_tells 7 = .ok (.if_icmp .ne 5, 3) := by decide +kernel
theorem dX13_tells_12 : decode cX13_tells 12 = .ok (.aload_n 0, 1) := by decide +kernel
theorem dX13_tells_13 : decode cX13_tells 13 = .ok (.sipush 160, 3) := by decide +kernel
theorem dX13_tells_16 : decode cX13_tells 16 = .ok (.sipush 900, 3) := by decide +kernel
theorem dX13_tells_19 : decode cX13_tells 19 = .ok (.aload_n 0, 1) := by decide +kernel
theorem dX13_tells_20 : decode cX13_tells 20 = .ok (.getfield 13, 3) := by decide +kernel
theorem dX13_tells_23 : decode cX13_tells 23 = .ok (.iconst 5, 1) := by decide +kernel
theorem dX13_tells_24 : decode cX13_tells 24 = .ok (.iaload, 1) := by decide +kernel
theorem dX13_tells_25 : decode cX13_tells 25 = .ok (.imul, 1) := by decide +kernel
theorem dX13_tells_26 : decode cX13_tells 26 = .ok (.iadd, 1) := by decide +kernel
theorem dX13_tells_27 : decode cX13_tells 27 = .ok (.putfield 389, 3) := by decide +kernel
theorem dX13_tells_30 : decode cX13_tells 30 = .ok (.lload_n 2, 1) := by decide +kernel
theorem dX13_tells_31 : decode cX13_tells 31 = .ok (.lstore 4, 2) := by decide +kernel
theorem dX13_tells_33 : decode cX13_tells 33 = .ok (.iconst 0, 1) := by decide +kernel
theorem dX13_tells_34 : decode cX13_tells 34 = .ok (.istore 6, 2) := by decide +kernel
theorem dX13_tells_36 : decode cX13_tells 36 = .ok (.iload 6, 2) := by decide +kernel
theorem dX13_tells_38 : decode cX13_tells 38 = .ok (.aload_n 0, 1) := by decide +kernel
theorem dX13_tells_39 : decode cX13_tells 39 = .ok (.getfield 13, 3) := by decide +kernel
theorem dX13_tells_42 : decode cX13_tells 42 = .ok (.aload_n 0, 1) := by decide +kernel
theorem dX13_tells_43 : decode cX13_tells 43 = .ok (.getfield 389, 3) := by decide +kernel
theorem dX13_tells_46 : decode cX13_tells 46 = .ok (.iconst 1, 1) := by decide +kernel
theorem dX13_tells_47 : decode cX13_tells 47 = .ok (.iadd, 1) := by decide +kernel
theorem dX13_tells_48 : decode cX13_tells 48 = .ok (.iaload, 1) := by decide +kernel
theorem dX13_tells_49 : decode cX13_tells 49 = .ok (.if_icmp .ge 58, 3) := by decide +kernel
theorem dX13_tells_107 : decode cX13_tells 107 = .ok (.lload 4, 2) := by decide +kernel
theorem dX13_tells_109 : decode cX13_tells 109 = .ok (.lreturn, 1) := by decide +kernel
theorem dX13_tells_52 : decode cX13_tells 52 = .ok (.aload_n 0, 1) := by decide +kernel
theorem dX13_tells_53 : decode cX13_tells 53 = .ok (.getfield 389, 3) := by decide +kernel
theorem dX13_tells_56 : decode cX13_tells 56 = .ok (.iconst 2, 1) := by decide +kernel
theorem dX13_tells_57 : decode cX13_tells 57 = .ok (.iadd, 1) := by decide +kernel
theorem dX13_tells_58 : decode cX13_tells 58 = .ok (.bipush 8, 2) := by decide +kernel
theorem dX13_tells_60 : decode cX13_tells 60 = .ok (.iload 6, 2) := by decide +kernel
theorem dX13_tells_62 : decode cX13_tells 62 = .ok (.imul, 1) := by decide +kernel
theorem dX13_tells_63 : decode cX13_tells 63 = .ok (.iadd, 1) := by decide +kernel
theorem dX13_tells_64 : decode cX13_tells 64 = .ok (.istore 7, 2) := by decide +kernel
theorem dX13_tells_66 : decode cX13_tells 66 = .ok (.aload_n 0, 1) := by decide +kernel
theorem dX13_tells_67 : decode cX13_tells 67 = .ok (.getfield 13, 3) := by decide +kernel
theorem dX13_tells_70 : decode cX13_tells 70 = .ok (.iload 7, 2) := by decide +kernel
theorem dX13_tells_72 : decode cX13_tells 72 = .ok (.iaload, 1) := by decide +kernel
theorem dX13_tells_73 : decode cX13_tells 73 = .ok (.iload_n 1, 1) := by decide +kernel
theorem dX13_tells_101 : decode cX13_tells 101 = .ok (.iinc 6 1, 3) := by decide +kernel
theorem dX13_tells_104 : decode cX13_tells 104 = .ok (.goto (-68), 3) := by decide +kernel
theorem dX13_tells_74 : decode cX13_tells 74 = .ok (.if_icmp .ne 27, 3) := by decide +kernel
theorem dX13_tells_77 : decode cX13_tells 77 = .ok (.aload_n 0, 1) := by decide +kernel
theorem dX13_tells_78 : decode cX13_tells 78 = .ok (.iload 7, 2) := by decide +kernel
theorem dX13_tells_80 : decode cX13_tells 80 = .ok (.invokevirtual 409, 3) := by decide +kernel
theorem dX13_tells_83 : decode cX13_tells 83 = .ok (.ifCond .eq 18, 3) := by decide +kernel
theorem dX13_tells_86 : decode cX13_tells 86 = .ok (.iload_n 1, 1) := by decide +kernel
theorem dX13_tells_87 : decode cX13_tells 87 = .ok (.iconst 3, 1) := by decide +kernel
theorem dX13_tells_99 : decode cX13_tells 99 = .ok (.lstore 4, 2) := by decide +kernel
theorem dX13_tells_88 : decode cX13_tells 88 = .ok (.if_icmp .ne 7, 3) := by decide +kernel
theorem dX13_tells_95 : decode cX13_tells 95 = .ok (.aload_n 0, 1) := by decide +kernel
theorem dX13_tells_96 : decode cX13_tells 96 = .ok (.getfield 406, 3) := by decide +kernel
theorem dX13_tells_91 : decode cX13_tells 91 = .ok (.lconst 1, 1) := by decide +kernel
theorem dX13_tells_92 : decode cX13_tells 92 = .ok (.goto 7, 3) := by decide +kernel
theorem dX13_tells_10 : decode cX13_tells 10 = .ok (.lload_n 2, 1) := by decide +kernel
theorem dX13_tells_11 : decode cX13_tells 11 = .ok (.lreturn, 1) := by decide +kernel
set_option maxHeartbeats 4000000 in
set_option maxRecDepth 100000 in
theorem k_X13_tells (l : Launch) (D : va_G) (cy : Nat → ClassId) (ld ad : Nat → Nat) (am : Nat) (hD : mz_D ad am) (Fa : Nat → Int32) (Ga : Nat → Int64) (Ra : Nat → Nat → Int32) (Sa : Nat → Nat → Int64) (p1 : Int32) (p2 : Int64) (hIF : mz_IF true Fa) (hIG : mz_IG Ga) (hIR : mz_IR [] true Ra) : Met l yX13_tells (wl yX13_tells cX13_tells 8 (some .long)) ({ frames := 7, cells := 0, slots := 0, locals := 420 }) (mz_p D cy ld ad am Fa Ga Ra Sa [.ref am, .int p1, .long p2]) (mz_l D cy ad am (fun r F G R S => mz_IF true F ∧ mz_IG G ∧ mz_IR [] true R ∧ (∀ k : Nat, k ∉ ([34, 38] : List Nat) → F k = Fa k) ∧ (∀ k : Nat, k ∉ ([] : List Nat) → R k = Ra k) ∧ (∀ k : Nat, k ∉ ([39, 40] : List Nat) → G k = Ga k))) 0 0 (mz_W ad am) := by
  refine mz_met (y := yX13_tells) (cc := cX13_tells) (maxL := 8) (ret := (some .long)) (av := [.ref am, .int p1, .long p2]) _ (by decide) (Nat.le_of_ble_eq_true rfl) ?_
  intro p e s m args below meth c hx hb hr hml hts htl hown hlocks hK H locs hM hS ls hl
  have hown : s.vm.findClass RX13 = some m.cls := hown
  have hl : lv_has ls 8 [(0, .ref am), (1, .int p1), (2, .long p2)] := hl
  have hr_p1 := tk_rng p1
  refine lv_aload_n hx hb dX13_tells_0 rfl (lv_at hl 0 rfl) ?_
  refine mz_getR hx hb htl hown hK hM 3 (Nat.le_of_ble_eq_true rfl) (Nat.le_of_ble_eq_true rfl) (htl _ mw_188) (fun _ h9 => h9) dX13_tells_1 ?_
  refine lv_iconst (v := 5) hx hb dX13_tells_4 (by decide) ?_
  refine mz_iald hx hb hK hM 3 (Nat.le_of_ble_eq_true rfl) rfl (nn := 5560) rfl (I := 5) (by decide) (by decide) (by decide) dX13_tells_5 (fun v2 hf1 => ?_)
  have hf1 : Ra 3 5 = v2 := hf1
  have hq_v2 := tk_rng v2
  have hr_v2 : (-1) ≤ v2.toInt ∧ v2.toInt ≤ 5 := by have h9 := mz_r3c 5 (hIR.at 3) hf1 (by decide); unfold mE at h9; omega
  refine lv_iconst (v := (-1)) hx hb dX13_tells_6 (by decide) ?_
  refine lv_icmp_ne (tgt := 12) hx hb dX13_tells_7 (by decide) (fun c9 => ?_) (fun c9 => ?_)
  · have hc3 : ¬ (v2.toInt = (-1)) := fun h9 => c9 ((fi_eq rfl (show ((-1) : Int32).toInt = (-1) by decide)).mpr h9)
    refine lv_aload_n hx hb dX13_tells_12 rfl (lv_at hl 0 rfl) ?_
    refine lv_sipush (v := 160) hx hb dX13_tells_13 (by decide) ?_
    refine lv_sipush (v := 900) hx hb dX13_tells_16 (by decide) ?_
    refine lv_aload_n hx hb dX13_tells_19 rfl (lv_at hl 0 rfl) ?_
    refine mz_getR hx hb htl hown hK hM 3 (Nat.le_of_ble_eq_true rfl) (Nat.le_of_ble_eq_true rfl) (htl _ mw_188) (fun _ h9 => h9) dX13_tells_20 ?_
    refine lv_iconst (v := 5) hx hb dX13_tells_23 (by decide) ?_
    refine mz_iald hx hb hK hM 3 (Nat.le_of_ble_eq_true rfl) rfl (nn := 5560) rfl (I := 5) (by decide) (by decide) (by decide) dX13_tells_24 (fun v9 e9 => ?_)
    refine fx_ti (v := v2) (e9.symm.trans (show Ra 3 (5 : Int32).toNatClampNeg = _ from hf1)) ?_
    refine lv_imul hx hb dX13_tells_25 ?_
    refine tk_mul (show (900 : Int32).toInt = 900 by decide) rfl (by omega) (by omega) (fun v4 h_v4 => ?_)
    refine lv_iadd hx hb dX13_tells_26 ?_
    refine tk_add (show (160 : Int32).toInt = 160 by decide) rfl (by omega) (by omega) (fun v5 h_v5 => ?_)
    refine mz_putI (ty := .int) (x := v5) hx hb htl hown hK hD hM hS 34 (Nat.le_of_ble_eq_true rfl) rfl (htl _ mw_1057) (fun _ h9 => h9) rfl (tyX13_ok 34 (by decide)) rfl rfl dX13_tells_27 (fun H locs F hM hS hf9 hj9 => ?_)
    have hIF := hIF.put hf9 hj9 (show 0 ≤ (v5 : Int32).toInt by omega) (show (v5 : Int32).toInt ≤ 4660 by omega) (by decide)
    have hFF := mz_frp (K := [34, 38]) (Fa := Fa) hj9 (fun _ _ => rfl) (by decide)
    have hf10 := hf9
    refine lv_lload_n hx hb dX13_tells_30 rfl (lv_at hl 2 rfl) ?_
    refine lv_lstore (lv' := [(4, .long p2), (0, .ref am), (1, .int p1), (2, .long p2)]) hx hb dX13_tells_31 hl (by decide) rfl (fun ls hl => ?_)
    refine lv_iconst (v := 0) hx hb dX13_tells_33 (by decide) ?_
    refine lv_istore (lv' := [(6, .int 0), (4, .long p2), (0, .ref am), (1, .int p1), (2, .long p2)]) hx hb dX13_tells_34 hl (by decide) rfl (fun ls hl => ?_)
    have hl633 : ∀ (N_l633 : Nat) (v91 : Int32) (v92 : Int64) (H : Heap) (locs : List Loc) (F : Nat → Int32) (G : Nat → Int64) (R : Nat → Nat → Int32) (S : Nat → Nat → Int64), (v91.toInt ≤ 12) → (0 ≤ v91.toInt) → (mz_S D cy ad am F G R S H) → (va_S (mz_W ad am) s.heap H locs) → (mz_IF true F) → (mz_IG G) → (mz_IR [] true R) → (∀ k : Nat, k ∉ ([34, 38] : List Nat) → F k = Fa k) → (∀ k : Nat, k ∉ ([39, 40] : List Nat) → G k = Ga k) → (∀ k : Nat, k ∉ ([] : List Nat) → R k = Ra k) → (R 3 5 = v2) → (F 34 = v5) → ((-1) * v91.toInt + 12 < (N_l633 : Int)) → ∀ ls : Array Slot, lv_has ls 8 [(6, .int v91), (4, .long v92), (0, .ref am), (1, .int p1)] → W p l e ({ frames := 7, cells := 0, slots := 0, locals := 420 }) s m args below meth c H locs 0 0 (MQ below (mz_l D cy ad am (fun r F G R S => mz_IF true F ∧ mz_IG G ∧ mz_IR [] true R ∧ (∀ k : Nat, k ∉ ([34, 38] : List Nat) → F k = Fa k) ∧ (∀ k : Nat, k ∉ ([] : List Nat) → R k = Ra k) ∧ (∀ k : Nat, k ∉ ([39, 40] : List Nat) → G k = Ga k))) args s 0 0 (mz_W ad am)) (F0 m 36 ls []) := by
      intro N_l633
      induction N_l633 with
      | zero => intro v91 v92 H locs F G R S hq0_l633 hq1_l633 hM hS hIF hIG hIR hFF hGG hRR hf1 hf10 hm_l633 ls hl; exfalso; omega
      | succ N_l633 ih_l633 =>
        intro v91 v92 H locs F G R S hq0_l633 hq1_l633 hM hS hIF hIG hIR hFF hGG hRR hf1 hf10 hm_l633 ls hl
        refine lv_iload hx hb dX13_tells_36 (lv_at hl 0 rfl) ?_
        refine lv_aload_n hx hb dX13_tells_38 rfl (lv_at hl 2 rfl) ?_
        refine mz_getR hx hb htl hown hK hM 3 (Nat.le_of_ble_eq_true rfl) (Nat.le_of_ble_eq_true rfl) (htl _ mw_188) (fun _ h9 => h9) dX13_tells_39 ?_
        refine lv_aload_n hx hb dX13_tells_42 rfl (lv_at hl 2 rfl) ?_
        refine mz_getI hx hb htl hown hK hM 34 (Nat.le_of_ble_eq_true rfl) rfl (htl _ mw_1057) (fun _ h9 => h9) dX13_tells_43 (fun v9 e9 => ?_)
        refine fx_ti (v := v5) (e9.symm.trans hf10) ?_
        refine lv_iconst (v := 1) hx hb dX13_tells_46 (by decide) ?_
        refine lv_iadd hx hb dX13_tells_47 ?_
        refine tk_add rfl (show (1 : Int32).toInt = 1 by decide) (by omega) (by omega) (fun v634 h_v634 => ?_)
        refine mz_iald hx hb hK hM 3 (Nat.le_of_ble_eq_true rfl) rfl (nn := 5560) rfl rfl (by omega) (by omega) dX13_tells_48 (fun v635 e_v635 => ?_)
        have hq_v635 := tk_rng v635
        have hW := (hIR.at 3 : mz_P true 3 (R 3)).2.2 v2.toInt.toNat (by omega)
        have hcl0 : R 3 (160 + 900 * v2.toInt.toNat + 1) = v635 := by rw [show 160 + 900 * v2.toInt.toNat + 1 = (v634 : Int32).toNatClampNeg by show _ = v634.toInt.toNat; omega]; exact e_v635
        have hcl : 0 ≤ v635.toInt ∧ v635.toInt ≤ 12 := hcl0 ▸ hW.1
        refine lv_icmp_ge (tgt := 107) hx hb dX13_tells_49 (by decide) (fun c9 => ?_) (fun c9 => ?_)
        · have hc636 : v635.toInt ≤ v91.toInt := (fi_le rfl rfl).mp c9
          refine lv_lload hx hb dX13_tells_107 (lv_at hl 1 rfl) ?_
          exact mz_lret (v := v92) hx hb hr hlocks ⟨hIF, hIG, hIR, hFF, hRR, hGG⟩ hM hS dX13_tells_109
        · have hc636 : ¬ (v635.toInt ≤ v91.toInt) := fun h9 => c9 ((fi_le rfl rfl).mpr h9)
          refine lv_aload_n hx hb dX13_tells_52 rfl (lv_at hl 2 rfl) ?_
          refine mz_getI hx hb htl hown hK hM 34 (Nat.le_of_ble_eq_true rfl) rfl (htl _ mw_1057) (fun _ h9 => h9) dX13_tells_53 (fun v9 e9 => ?_)
          refine fx_ti (v := v5) (e9.symm.trans hf10) ?_
          refine lv_iconst (v := 2) hx hb dX13_tells_56 (by decide) ?_
          refine lv_iadd hx hb dX13_tells_57 ?_
          refine tk_add rfl (show (2 : Int32).toInt = 2 by decide) (by omega) (by omega) (fun v674 h_v674 => ?_)
          refine lv_bipush (v := 8) hx hb dX13_tells_58 (by decide) ?_
          refine lv_iload hx hb dX13_tells_60 (lv_at hl 0 rfl) ?_
          refine lv_imul hx hb dX13_tells_62 ?_
          refine tk_mul (show (8 : Int32).toInt = 8 by decide) rfl (by omega) (by omega) (fun v675 h_v675 => ?_)
          refine lv_iadd hx hb dX13_tells_63 ?_
          refine tk_add rfl rfl (by omega) (by omega) (fun v676 h_v676 => ?_)
          refine lv_istore (lv' := [(7, .int v676), (6, .int v91), (4, .long v92), (0, .ref am), (1, .int p1)]) hx hb dX13_tells_64 hl (by decide) rfl (fun ls hl => ?_)
          have hcl2 : ((v91.toInt.toNat : Nat) : Int) < (R 3 (160 + 900 * v2.toInt.toNat + 1)).toInt := by rw [hcl0]; omega
          refine lv_aload_n hx hb dX13_tells_66 rfl (lv_at hl 3 rfl) ?_
          refine mz_getR hx hb htl hown hK hM 3 (Nat.le_of_ble_eq_true rfl) (Nat.le_of_ble_eq_true rfl) (htl _ mw_188) (fun _ h9 => h9) dX13_tells_67 ?_
          refine lv_iload hx hb dX13_tells_70 (lv_at hl 0 rfl) ?_
          refine mz_iald hx hb hK hM 3 (Nat.le_of_ble_eq_true rfl) rfl (nn := 5560) rfl rfl (by omega) (by omega) dX13_tells_72 (fun v677 e_v677 => ?_)
          have hq_v677 := tk_rng v677
          refine lv_iload_n hx hb dX13_tells_73 rfl (lv_at hl 4 rfl) ?_
          have hj696 : ∀ (v694 : Int64) (H : Heap) (locs : List Loc) (F : Nat → Int32) (G : Nat → Int64) (R : Nat → Nat → Int32) (S : Nat → Nat → Int64), (mz_S D cy ad am F G R S H) → (va_S (mz_W ad am) s.heap H locs) → (mz_IF true F) → (mz_IG G) → (mz_IR [] true R) → (∀ k : Nat, k ∉ ([34, 38] : List Nat) → F k = Fa k) → (∀ k : Nat, k ∉ ([39, 40] : List Nat) → G k = Ga k) → (∀ k : Nat, k ∉ ([] : List Nat) → R k = Ra k) → (R 3 5 = v2) → (F 34 = v5) → ∀ ls : Array Slot, lv_has ls 8 [(6, .int v91), (4, .long v694), (0, .ref am), (1, .int p1)] → W p l e ({ frames := 7, cells := 0, slots := 0, locals := 420 }) s m args below meth c H locs 0 0 (MQ below (mz_l D cy ad am (fun r F G R S => mz_IF true F ∧ mz_IG G ∧ mz_IR [] true R ∧ (∀ k : Nat, k ∉ ([34, 38] : List Nat) → F k = Fa k) ∧ (∀ k : Nat, k ∉ ([] : List Nat) → R k = Ra k) ∧ (∀ k : Nat, k ∉ ([39, 40] : List Nat) → G k = Ga k))) args s 0 0 (mz_W ad am)) (F0 m 101 ls []) := by
            intro v694 H locs F G R S hM hS hIF hIG hIR hFF hGG hRR hf1 hf10 ls hl
            obtain ⟨v697, h_v697, e_v697⟩ := tk_inc v91 1 (by decide) (by omega) (by omega)
            refine lv_iinc (v := v697) (lv' := [(6, .int v697), (4, .long v694), (0, .ref am), (1, .int p1)]) hx hb dX13_tells_101 hl (k := 0) rfl e_v697 (by decide) rfl (fun ls hl => ?_)
            refine lv_goto (tgt := 36) hx hb dX13_tells_104 (by decide) ?_
            exact ih_l633 v697 v694 _ _ _ _ _ _ (by omega) (by omega) hM hS hIF hIG hIR hFF hGG hRR hf1 hf10 (by omega) _ (lv_sub hl [0, 1, 2, 3] rfl)
          refine lv_icmp_ne (tgt := 101) hx hb dX13_tells_74 (by decide) (fun c9 => ?_) (fun c9 => ?_)
          · have hc678 : ¬ (v677.toInt = p1.toInt) := fun h9 => c9 ((fi_eq rfl rfl).mpr h9)
            exact hj696 v92 _ _ _ _ _ _ hM hS hIF hIG hIR hFF hGG hRR hf1 hf10 _ (lv_sub hl [1, 2, 3, 4] rfl)
          · have hc678 : v677.toInt = p1.toInt := (fi_eq rfl rfl).mp c9
            refine lv_aload_n hx hb dX13_tells_77 rfl (lv_at hl 3 rfl) ?_
            refine lv_iload hx hb dX13_tells_78 (lv_at hl 0 rfl) ?_
            refine mz_Vi (As := [.int v676]) (rest := []) ⟨hx, hb, hml, hown, hts⟩ hK hM hS (k_X13_isSo l D cy ld ad am hD _ _ _ _ v676 v5 (fun j => R 3 (160 + 900 * v2.toInt.toNat + 98 + 2 * j)) (fun j => R 3 (160 + 900 * v2.toInt.toNat + 98 + 2 * j + 1)) hIF hIG hIR hf10 (by omega) (by omega) (by have h9 := hW.2 v91.toInt.toNat hcl2; rw [show v676.toInt.toNat + 3 = 160 + 900 * v2.toInt.toNat + 2 + 8 * v91.toInt.toNat + 3 by omega, show v676.toInt.toNat + 4 = 160 + 900 * v2.toInt.toNat + 2 + 8 * v91.toInt.toNat + 4 by omega, show v676.toInt.toNat + 5 = 160 + 900 * v2.toInt.toNat + 2 + 8 * v91.toInt.toNat + 5 by omega, show v676.toInt.toNat + 6 = 160 + 900 * v2.toInt.toNat + 2 + 8 * v91.toInt.toNat + 6 by omega]; exact h9) (fun j _ => by rw [show v5.toInt.toNat = 160 + 900 * v2.toInt.toNat by omega]; exact ⟨rfl, rfl⟩)) ⟨callB_of 1 hts (wl_in mw_1112) rfl rfl rfl (htl _ mw_5) (htl _ mw_1109) hd_yX13_isSo ⟨(Nat.le_of_ble_eq_true rfl), (Nat.le_of_ble_eq_true rfl)⟩, htl _ mw_1110, htl _ mw_1111⟩ rfl hl.1 rfl (Nat.le_of_ble_eq_true rfl) dX13_tells_80 ⟨(Nat.le_of_ble_eq_true rfl), (Nat.le_of_ble_eq_true rfl)⟩ (fun v698 H locs F G R S hpo hM hS => ?_)
            obtain ⟨hIF, hIG, hIR, hfr9, hrr9, hgr9, hpo699, hpo700, hpo701, hpo702⟩ := hpo
            have hq_v698 := tk_rng v698
            have hFF := mz_fr (K := [34, 38]) (Fa := Fa) hfr9 hFF (by decide)
            have hRR := mz_fr (K := []) (Fa := Ra) hrr9 hRR (by decide)
            have hGG := mz_fr (K := [39, 40]) (Fa := Ga) hgr9 hGG (by decide)
            have e_v635 : R 3 (v634 : Int32).toNatClampNeg = _ := (congrFun (hrr9 3 (by decide)) _).trans e_v635
            have e_v677 : R 3 (v676 : Int32).toNatClampNeg = _ := (congrFun (hrr9 3 (by decide)) _).trans e_v677
            have hf1 : R 3 5 = _ := (congrFun (hrr9 3 (by decide)) 5).trans hf1
            have hf10 := (hfr9 34 (by decide)).trans hf10
            refine lv_if_eq (tgt := 101) hx hb dX13_tells_83 (by decide) (fun c9 => ?_) (fun c9 => ?_)
            · have hc704 : v698.toInt = 0 := (fi_eq rfl (show (0 : Int32).toInt = 0 by decide)).mp c9
              exact hj696 v92 _ _ _ _ _ _ hM hS hIF hIG hIR hFF hGG hRR hf1 hf10 _ (lv_sub hl [1, 2, 3, 4] rfl)
            · have hc704 : ¬ (v698.toInt = 0) := fun h9 => c9 ((fi_eq rfl (show (0 : Int32).toInt = 0 by decide)).mpr h9)
              refine lv_iload_n hx hb dX13_tells_86 rfl (lv_at hl 4 rfl) ?_
              refine lv_iconst (v := 3) hx hb dX13_tells_87 (by decide) ?_
              have hj709 : ∀ (v708 : Int64), ∀ ls : Array Slot, lv_has ls 8 [(6, .int v91), (0, .ref am), (1, .int p1)] → W p l e ({ frames := 7, cells := 0, slots := 0, locals := 420 }) s m args below meth c H locs 0 0 (MQ below (mz_l D cy ad am (fun r F G R S => mz_IF true F ∧ mz_IG G ∧ mz_IR [] true R ∧ (∀ k : Nat, k ∉ ([34, 38] : List Nat) → F k = Fa k) ∧ (∀ k : Nat, k ∉ ([] : List Nat) → R k = Ra k) ∧ (∀ k : Nat, k ∉ ([39, 40] : List Nat) → G k = Ga k))) args s 0 0 (mz_W ad am)) (F0 m 99 ls [.long v708]) := by
                intro v708  ls hl
                refine lv_lstore (lv' := [(4, .long v708), (6, .int v91), (0, .ref am), (1, .int p1)]) hx hb dX13_tells_99 hl (by decide) rfl (fun ls hl => ?_)
                exact hj696 v708 _ _ _ _ _ _ hM hS hIF hIG hIR hFF hGG hRR hf1 hf10 _ (lv_sub hl [1, 0, 2, 3] rfl)
              refine lv_icmp_ne (tgt := 95) hx hb dX13_tells_88 (by decide) (fun c9 => ?_) (fun c9 => ?_)
              · have hc705 : ¬ (p1.toInt = 3) := fun h9 => c9 ((fi_eq rfl (show (3 : Int32).toInt = 3 by decide)).mpr h9)
                refine lv_aload_n hx hb dX13_tells_95 rfl (lv_at hl 3 rfl) ?_
                refine mz_getJ hx hb htl hown hK hM 40 (Nat.le_of_ble_eq_true rfl) rfl (htl _ mw_1108) (fun _ h9 => h9) dX13_tells_96 (fun w710 e_w710 => ?_)
                have hr_w710 := tk_rngL w710
                exact hj709 w710 _ (lv_sub hl [1, 3, 4] rfl)
              · have hc705 : p1.toInt = 3 := (fi_eq rfl (show (3 : Int32).toInt = 3 by decide)).mp c9
                refine lv_lconst (v := 1) hx hb dX13_tells_91 (by decide) ?_
                refine lv_goto (tgt := 99) hx hb dX13_tells_92 (by decide) ?_
                have hk_1 : (1 : Int64).toInt = 1 := by decide
                exact hj709 1 _ (lv_sub hl [1, 3, 4] rfl)
    have hk_0 : (0 : Int32).toInt = 0 := by decide
    exact hl633 13 0 p2 _ _ _ _ _ _ (by omega) (by omega) hM hS hIF hIG hIR hFF (fun _ _ => rfl) (fun _ _ => rfl) hf1 hf10 (by omega) _ (lv_sub hl [0, 1, 2, 3] rfl)
  · have hc3 : v2.toInt = (-1) := (fi_eq rfl (show ((-1) : Int32).toInt = (-1) by decide)).mp c9
    refine lv_lload_n hx hb dX13_tells_10 rfl (lv_at hl 2 rfl) ?_
    exact mz_lret (v := p2) hx hb hr hlocks ⟨hIF, hIG, hIR, (fun _ _ => rfl), (fun _ _ => rfl), (fun _ _ => rfl)⟩ hM hS dX13_tells_11
end
section
set_option maxHeartbeats 4000000 in
set_option maxRecDepth 100000 in
theorem k_X13_term_0 (l : Launch) (D : va_G) (cy : Nat → ClassId) (ld ad : Nat → Nat) (am : Nat) (hD : mz_D ad am) (Fa : Nat → Int32) (Ga : Nat → Int64) (Ra : Nat → Nat → Int32) (Sa : Nat → Nat → Int64) (g0 : Int32) (hg_0 : Ra 3 6 = g0) : Met l yX13_term (wl yX13_term cX13_term 2 (some .int)) ({ frames := 3, cells := 0, slots := 0, locals := 140 }) (mz_p D cy ld ad am Fa Ga Ra Sa [.ref am, .int 0]) (mz_j D cy ad am Fa Ga Ra Sa (fun r => (-1) * g0.toInt + r.toInt = 0)) 0 0 (mz_W ad am) := by
  refine mz_met (y := yX13_term) (cc := cX13_term) (maxL := 2) (ret := (some .int)) (av := [.ref am, .int 0]) _ (by decide) (Nat.le_of_ble_eq_true rfl) ?_
  intro p e s m args below meth c hx hb hr hml hts htl hown hlocks hK H locs hM hS ls hl
  have hown : s.vm.findClass RX13 = some m.cls := hown
  have hl : lv_has ls 2 [(0, .ref am), (1, .int 0)] := hl
  have hq_g0 := tk_rng g0
  refine lv_aload_n hx hb dX13_term_0 rfl (lv_at hl 0 rfl) ?_
  refine mz_getR hx hb htl hown hK hM 3 (Nat.le_of_ble_eq_true rfl) (Nat.le_of_ble_eq_true rfl) (htl _ mw_188) (fun _ h9 => h9) dX13_term_1 ?_
  refine lv_bipush (v := 6) hx hb dX13_term_4 (by decide) ?_
  refine lv_iload_n hx hb dX13_term_6 rfl (lv_at hl 1 rfl) ?_
  refine lv_iadd hx hb dX13_term_7 ?_
  refine fx_ti (v := 6) (by decide) ?_
  refine mz_iald hx hb hK hM 3 (Nat.le_of_ble_eq_true rfl) rfl (nn := 5560) rfl (I := 6) (by decide) (by decide) (by decide) dX13_term_8 (fun v9 e9 => ?_)
  refine fx_ti (v := g0) (e9.symm.trans (show Ra 3 (6 : Int32).toNatClampNeg = _ from hg_0)) ?_
  exact mz_jret (v := g0) hx hb hr rfl hlocks (by omega) hM hS dX13_term_9
end
section
set_option maxHeartbeats 4000000 in
set_option maxRecDepth 100000 in
theorem k_X13_term_3 (l : Launch) (D : va_G) (cy : Nat → ClassId) (ld ad : Nat → Nat) (am : Nat) (hD : mz_D ad am) (Fa : Nat → Int32) (Ga : Nat → Int64) (Ra : Nat → Nat → Int32) (Sa : Nat → Nat → Int64) (g0 : Int32) (hg_0 : Ra 3 9 = g0) : Met l yX13_term (wl yX13_term cX13_term 2 (some .int)) ({ frames := 3, cells := 0, slots := 0, locals := 140 }) (mz_p D cy ld ad am Fa Ga Ra Sa [.ref am, .int 3]) (mz_j D cy ad am Fa Ga Ra Sa (fun r => (-1) * g0.toInt + r.toInt = 0)) 0 0 (mz_W ad am) := by
  refine mz_met (y := yX13_term) (cc := cX13_term) (maxL := 2) (ret := (some .int)) (av := [.ref am, .int 3]) _ (by decide) (Nat.le_of_ble_eq_true rfl) ?_
  intro p e s m args below meth c hx hb hr hml hts htl hown hlocks hK H locs hM hS ls hl
  have hown : s.vm.findClass RX13 = some m.cls := hown
  have hl : lv_has ls 2 [(0, .ref am), (1, .int 3)] := hl
  have hq_g0 := tk_rng g0
  refine lv_aload_n hx hb dX13_term_0 rfl (lv_at hl 0 rfl) ?_
  refine mz_getR hx hb htl hown hK hM 3 (Nat.le_of_ble_eq_true rfl) (Nat.le_of_ble_eq_true rfl) (htl _ mw_188) (fun _ h9 => h9) dX13_term_1 ?_
  refine lv_bipush (v := 6) hx hb dX13_term_4 (by decide) ?_
  refine lv_iload_n hx hb dX13_term_6 rfl (lv_at hl 1 rfl) ?_
  refine lv_iadd hx hb dX13_term_7 ?_
  refine fx_ti (v := 9) (by decide) ?_
  refine mz_iald hx hb hK hM 3 (Nat.le_of_ble_eq_true rfl) rfl (nn := 5560) rfl (I := 9) (by decide) (by decide) (by decide) dX13_term_8 (fun v9 e9 => ?_)
  refine fx_ti (v := g0) (e9.symm.trans (show Ra 3 (9 : Int32).toNatClampNeg = _ from hg_0)) ?_
  exact mz_jret (v := g0) hx hb hr rfl hlocks (by omega) hM hS dX13_term_9
end
