theorem hd_yX13_isSign : yX13_isSign.cls ≠ "java/lang/invoke/MethodHandle" ∧ yX13_isSign.cls ≠ "java/lang/invoke/VarHandle" ∧ (parseMethodDescriptor yX13_isSign.desc).map (fun d => d.parameters.length) = some 1 := by decide +kernel
theorem hd_yX13_partAt : yX13_partAt.cls ≠ "java/lang/invoke/MethodHandle" ∧ yX13_partAt.cls ≠ "java/lang/invoke/VarHandle" ∧ (parseMethodDescriptor yX13_partAt.desc).map (fun d => d.parameters.length) = some 0 := by decide +kernel
theorem hd_yX13_leaf : yX13_leaf.cls ≠ "java/lang/invoke/MethodHandle" ∧ yX13_leaf.cls ≠ "java/lang/invoke/VarHandle" ∧ (parseMethodDescriptor yX13_leaf.desc).map (fun d => d.parameters.length) = some 3 := by decide +kernel
theorem hd_yX13_orderPartAt : yX13_orderPartAt.cls ≠ "java/lang/invoke/MethodHandle" ∧ yX13_orderPartAt.cls ≠ "java/lang/invoke/VarHandle" ∧ (parseMethodDescriptor yX13_orderPartAt.desc).map (fun d => d.parameters.length) = some 0 := by decide +kernel
theorem hd_yX13_number : yX13_number.cls ≠ "java/lang/invoke/MethodHandle" ∧ yX13_number.cls ≠ "java/lang/invoke/VarHandle" ∧ (parseMethodDescriptor yX13_number.desc).map (fun d => d.parameters.length) = some 2 := by decide +kernel
theorem hd_yX13_openBracket : yX13_openBracket.cls ≠ "java/lang/invoke/MethodHandle" ∧ yX13_openBracket.cls ≠ "java/lang/invoke/VarHandle" ∧ (parseMethodDescriptor yX13_openBracket.desc).map (fun d => d.parameters.length) = some 1 := by decide +kernel
theorem dX13_readPart_0 : decode cX13_readPart 0 = .ok (.aload_n 0, 1) := by decide +kernel
theorem dX13_readPart_1 : decode cX13_readPart 1 = .ok (.bipush 91, 2) := by decide +kernel
theorem dX13_readPart_3 : decode cX13_readPart 3 = .ok (.invokevirtual 309, 3) := by decide +kernel
theorem dX13_readPart_6 : decode cX13_readPart 6 = .ok (.ifCond .eq 11, 3) := by decide +kernel
theorem dX13_readPart_17 : decode cX13_readPart 17 = .ok (.aload_n 0, 1) := by decide +kernel
theorem dX13_readPart_18 : decode cX13_readPart 18 = .ok (.getfield 315, 3) := by decide +kernel
theorem dX13_readPart_21 : decode cX13_readPart 21 = .ok (.ifCond .eq 10, 3) := by decide +kernel
theorem dX13_readPart_31 : decode cX13_readPart 31 = .ok (.aload_n 0, 1) := by decide +kernel
theorem dX13_readPart_32 : decode cX13_readPart 32 = .ok (.invokevirtual 322, 3) := by decide +kernel
theorem dX13_readPart_35 : decode cX13_readPart 35 = .ok (.istore_n 1, 1) := by decide +kernel
theorem dX13_readPart_36 : decode cX13_readPart 36 = .ok (.aload_n 0, 1) := by decide +kernel
theorem dX13_readPart_37 : decode cX13_readPart 37 = .ok (.getfield 256, 3) := by decide +kernel
theorem dX13_readPart_40 : decode cX13_readPart 40 = .ok (.iconst 2, 1) := by decide +kernel
theorem dX13_readPart_41 : decode cX13_readPart 41 = .ok (.if_icmp .ne 18, 3) := by decide +kernel
theorem dX13_readPart_59 : decode cX13_readPart 59 = .ok (.iconst 0, 1) := by decide +kernel
theorem dX13_readPart_60 : decode cX13_readPart 60 = .ok (.istore_n 2, 1) := by decide +kernel
theorem dX13_readPart_61 : decode cX13_readPart 61 = .ok (.aload_n 0, 1) := by decide +kernel
theorem dX13_readPart_62 : decode cX13_readPart 62 = .ok (.iload_n 1, 1) := by decide +kernel
theorem dX13_readPart_63 : decode cX13_readPart 63 = .ok (.iconst (-1), 1) := by decide +kernel
theorem dX13_readPart_64 : decode cX13_readPart 64 = .ok (.if_icmp .ne 7, 3) := by decide +kernel
theorem dX13_readPart_71 : decode cX13_readPart 71 = .ok (.iconst 1, 1) := by decide +kernel
theorem dX13_readPart_72 : decode cX13_readPart 72 = .ok (.goto 4, 3) := by decide +kernel
theorem dX13_readPart_76 : decode cX13_readPart 76 = .ok (.iload_n 1, 1) := by decide +kernel
theorem dX13_readPart_77 : decode cX13_readPart 77 = .ok (.iconst (-1), 1) := by decide +kernel
theorem dX13_readPart_78 : decode cX13_readPart 78 = .ok (.if_icmp .ne 7, 3) := by decide +kernel
theorem dX13_readPart_85 : decode cX13_readPart 85 = .ok (.iload_n 1, 1) := by decide +kernel
theorem dX13_readPart_86 : decode cX13_readPart 86 = .ok (.iload_n 2, 1) := by decide +kernel
theorem dX13_readPart_87 : decode cX13_readPart 87 = .ok (.ifCond .eq 11, 3) := by decide +kernel
theorem dX13_readPart_98 : decode cX13_readPart 98 = .ok (.iconst 0, 1) := by decide +kernel
theorem dX13_readPart_99 : decode cX13_readPart 99 = .ok (.invokevirtual 327, 3) := by decide +kernel
theorem dX13_readPart_102 : decode cX13_readPart 102 = .ok (.aload_n 0, 1) := by decide +kernel
theorem dX13_readPart_103 : decode cX13_readPart 103 = .ok (.getfield 315, 3) := by decide +kernel
theorem dX13_readPart_106 : decode cX13_readPart 106 = .ok (.ifCond .eq 47, 3) := by decide +kernel
theorem dX13_readPart_153 : decode cX13_readPart 153 = .ok (.iconst 3, 1) := by decide +kernel
theorem dX13_readPart_154 : decode cX13_readPart 154 = .ok (.ireturn, 1) := by decide +kernel
theorem dX13_readPart_67 : decode cX13_readPart 67 = .ok (.iload_n 2, 1) := by decide +kernel
theorem dX13_readPart_68 : decode cX13_readPart 68 = .ok (.ifCond .eq 7, 3) := by decide +kernel
theorem dX13_readPart_75 : decode cX13_readPart 75 = .ok (.iconst 0, 1) := by decide +kernel
theorem dX13_readPart_81 : decode cX13_readPart 81 = .ok (.iconst 0, 1) := by decide +kernel
theorem dX13_readPart_82 : decode cX13_readPart 82 = .ok (.goto 4, 3) := by decide +kernel
theorem dX13_readPart_44 : decode cX13_readPart 44 = .ok (.aload_n 0, 1) := by decide +kernel
theorem dX13_readPart_45 : decode cX13_readPart 45 = .ok (.getfield 246, 3) := by decide +kernel
theorem dX13_readPart_48 : decode cX13_readPart 48 = .ok (.ldc2_w 325, 3) := by decide +kernel
theorem dX13_readPart_51 : decode cX13_readPart 51 = .ok (.lcmp, 1) := by decide +kernel
theorem dX13_readPart_52 : decode cX13_readPart 52 = .ok (.ifCond .gt 7, 3) := by decide +kernel
theorem dX13_readPart_55 : decode cX13_readPart 55 = .ok (.iconst 1, 1) := by decide +kernel
theorem dX13_readPart_56 : decode cX13_readPart 56 = .ok (.goto 4, 3) := by decide +kernel
theorem dX13_readPart_90 : decode cX13_readPart 90 = .ok (.aload_n 0, 1) := by decide +kernel
theorem dX13_readPart_91 : decode cX13_readPart 91 = .ok (.getfield 246, 3) := by decide +kernel
theorem dX13_readPart_94 : decode cX13_readPart 94 = .ok (.l2i, 1) := by decide +kernel
theorem dX13_readPart_95 : decode cX13_readPart 95 = .ok (.goto 4, 3) := by decide +kernel
theorem dX13_readPart_24 : decode cX13_readPart 24 = .ok (.aload_n 0, 1) := by decide +kernel
theorem dX13_readPart_25 : decode cX13_readPart 25 = .ok (.invokevirtual 318, 3) := by decide +kernel
theorem dX13_readPart_28 : decode cX13_readPart 28 = .ok (.goto 7, 3) := by decide +kernel
theorem dX13_readPart_109 : decode cX13_readPart 109 = .ok (.iload_n 1, 1) := by decide +kernel
theorem dX13_readPart_110 : decode cX13_readPart 110 = .ok (.bipush 6, 2) := by decide +kernel
theorem dX13_readPart_112 : decode cX13_readPart 112 = .ok (.if_icmp .lt 41, 3) := by decide +kernel
theorem dX13_readPart_115 : decode cX13_readPart 115 = .ok (.aload_n 0, 1) := by decide +kernel
theorem dX13_readPart_116 : decode cX13_readPart 116 = .ok (.getfield 236, 3) := by decide +kernel
theorem dX13_readPart_119 : decode cX13_readPart 119 = .ok (.ifCond .ne 34, 3) := by decide +kernel
theorem dX13_readPart_122 : decode cX13_readPart 122 = .ok (.aload_n 0, 1) := by decide +kernel
theorem dX13_readPart_123 : decode cX13_readPart 123 = .ok (.getfield 275, 3) := by decide +kernel
theorem dX13_readPart_126 : decode cX13_readPart 126 = .ok (.iconst 1, 1) := by decide +kernel
theorem dX13_readPart_127 : decode cX13_readPart 127 = .ok (.isub, 1) := by decide +kernel
theorem dX13_readPart_128 : decode cX13_readPart 128 = .ok (.istore_n 3, 1) := by decide +kernel
theorem dX13_readPart_129 : decode cX13_readPart 129 = .ok (.aload_n 0, 1) := by decide +kernel
theorem dX13_readPart_130 : decode cX13_readPart 130 = .ok (.getfield 48, 3) := by decide +kernel
theorem dX13_readPart_133 : decode cX13_readPart 133 = .ok (.iload_n 3, 1) := by decide +kernel
theorem dX13_readPart_134 : decode cX13_readPart 134 = .ok (.aload_n 0, 1) := by decide +kernel
theorem dX13_readPart_135 : decode cX13_readPart 135 = .ok (.lconst 0, 1) := by decide +kernel
theorem dX13_readPart_136 : decode cX13_readPart 136 = .ok (.iload_n 1, 1) := by decide +kernel
theorem dX13_readPart_137 : decode cX13_readPart 137 = .ok (.bipush 6, 2) := by decide +kernel
theorem dX13_readPart_139 : decode cX13_readPart 139 = .ok (.if_icmp .ne 9, 3) := by decide +kernel
theorem dX13_readPart_148 : decode cX13_readPart 148 = .ok (.lconst 1, 1) := by decide +kernel
theorem dX13_readPart_149 : decode cX13_readPart 149 = .ok (.invokevirtual 333, 3) := by decide +kernel
theorem dX13_readPart_152 : decode cX13_readPart 152 = .ok (.iastore, 1) := by decide +kernel
theorem dX13_readPart_142 : decode cX13_readPart 142 = .ok (.ldc2_w 331, 3) := by decide +kernel
theorem dX13_readPart_145 : decode cX13_readPart 145 = .ok (.goto 4, 3) := by decide +kernel
theorem dX13_readPart_9 : decode cX13_readPart 9 = .ok (.aload_n 0, 1) := by decide +kernel
theorem dX13_readPart_10 : decode cX13_readPart 10 = .ok (.bipush 32, 2) := by decide +kernel
theorem dX13_readPart_12 : decode cX13_readPart 12 = .ok (.invokevirtual 312, 3) := by decide +kernel
theorem dX13_readPart_15 : decode cX13_readPart 15 = .ok (.iconst 1, 1) := by decide +kernel
theorem dX13_readPart_16 : decode cX13_readPart 16 = .ok (.ireturn, 1) := by decide +kernel
set_option maxHeartbeats 4000000 in
set_option maxRecDepth 100000 in
theorem k_X13_readPart (l : Launch) (D : va_G) (cy : Nat → ClassId) (ld ad : Nat → Nat) (am : Nat) (hD : mz_D ad am) (Fa : Nat → Int32) (Ga : Nat → Int64) (Ra : Nat → Nat → Int32) (Sa : Nat → Nat → Int64) (gf : Int32) (gt : Int32) (gs : Int32) (gp : Int32) (gw : Int64) (gb : Int32) (gc : Int32) (gd : Int32) (zs : Nat) (hIF : mz_IF false Fa) (hIG : mz_IG Ga) (hIR : mz_IR [] true Ra) (hg_0 : Fa 14 = gf) (hg_1 : Fa 15 = gt) (hg_2 : Fa 16 = gs) (hg_3 : Fa 13 = gp) (hg_4 : Ga 17 = gw) (hg_5 : Fa 19 = gb) (hg_6 : Fa 23 = gc) (hg_7 : Fa 29 = gd) (hp_0 : 0 ≤ (-1) * gf.toInt + gt.toInt) (hp_1 : 0 ≤ gp.toInt + (-1) * gt.toInt) (hp_2 : (1 ≤ gs.toInt → 0 ≤ (-1) * gf.toInt + gt.toInt + (-1))) (hp_3 : (27 ≤ gw.toInt → 1 ≤ gs.toInt → gs.toInt ≤ 1 → 0 ≤ (-1) * gf.toInt + gt.toInt + (-2))) (hp_4 : 0 ≤ (-1) * gc.toInt + (-1) * gd.toInt + gf.toInt) (hp_5 : gb.toInt ≤ 0) (hx_0 : PI (Ra 24) (Ra 25) (Ra 27) (Ra 28) zs gc.toInt.toNat gd.toInt.toNat 0) : Met l yX13_readPart (wl yX13_readPart cX13_readPart 4 (some .int)) ({ frames := 7, cells := 0, slots := 0, locals := 420 }) (mz_p D cy ld ad am Fa Ga Ra Sa [.ref am]) (mz_i D cy ad am (fun r F G R S => mz_IF false F ∧ mz_IG G ∧ mz_IR [] true R ∧ (∀ k : Nat, k ∉ ([14, 15, 16, 18, 19, 23, 26, 29, 30] : List Nat) → F k = Fa k) ∧ (∀ k : Nat, k ∉ ([24, 25, 27, 28] : List Nat) → R k = Ra k) ∧ (∀ k : Nat, k ∉ ([17] : List Nat) → G k = Ga k) ∧ 0 ≤ (-1) * (F 14).toInt + (F 15).toInt ∧ 0 ≤ gp.toInt + (-1) * (F 15).toInt ∧ (1 ≤ (F 16).toInt → 0 ≤ (-1) * (F 14).toInt + (F 15).toInt + (-1)) ∧ (27 ≤ (G 17).toInt → 1 ≤ (F 16).toInt → (F 16).toInt ≤ 1 → 0 ≤ (-1) * (F 14).toInt + (F 15).toInt + (-2)) ∧ 0 ≤ (-1) * gf.toInt + (F 14).toInt ∧ 0 ≤ (-1) * (F 23).toInt + (-1) * (F 29).toInt + (F 14).toInt ∧ 0 ≤ (-1) * gc.toInt + (F 23).toInt ∧ ((F 19).toInt ≤ 0 → 0 ≤ (-1) * gf.toInt + (F 14).toInt + (-1)) ∧ 1 ≤ r.toInt ∧ r.toInt ≤ 3 ∧ ((F 19).toInt = 0 → PT (R 24) (R 25) (R 27) (R 28) zs (F 23).toInt.toNat (F 29).toInt.toNat r.toInt ∧ low zs (Ra 24) (R 24) ∧ low zs (Ra 25) (R 25)))) 0 0 (mz_W ad am) := by
  refine mz_met (y := yX13_readPart) (cc := cX13_readPart) (maxL := 4) (ret := (some .int)) (av := [.ref am]) _ (by decide) (Nat.le_of_ble_eq_true rfl) ?_
  intro p e s m args below meth c hx hb hr hml hts htl hown hlocks hK H locs hM hS ls hl
  have hown : s.vm.findClass RX13 = some m.cls := hown
  have hl : lv_has ls 4 [(0, .ref am)] := hl
  have hq_gf := tk_rng gf
  have hq_gt := tk_rng gt
  have hq_gs := tk_rng gs
  have hq_gp := tk_rng gp
  have hq_gw := tk_rngL gw
  have hq_gb := tk_rng gb
  have hq_gc := tk_rng gc
  have hq_gd := tk_rng gd
  have hr_gf : 0 ≤ gf.toInt ∧ gf.toInt ≤ 400 := hIF.at hg_0
  have hr_gt : 0 ≤ gt.toInt ∧ gt.toInt ≤ 400 := hIF.at hg_1
  have hr_gs : 0 ≤ gs.toInt ∧ gs.toInt ≤ 3 := hIF.at hg_2
  have hr_gp : 0 ≤ gp.toInt ∧ gp.toInt ≤ 400 := hIF.at hg_3
  have hr_gb : 0 ≤ gb.toInt ∧ gb.toInt ≤ 1 := hIF.at hg_5
  have hr_gc : 0 ≤ gc.toInt ∧ gc.toInt ≤ 400 := hIF.at hg_6
  have hr_gd : 0 ≤ gd.toInt ∧ gd.toInt ≤ 400 := hIF.at hg_7
  have hPI := hx_0
  have hz0 := hPI.1
  have hLo := And.intro (low.refl zs (Ra 24)) (low.refl zs (Ra 25))
  refine lv_aload_n hx hb dX13_readPart_0 rfl (lv_at hl 0 rfl) ?_
  refine lv_bipush (v := 91) hx hb dX13_readPart_1 (by decide) ?_
  have hk_91 : (91 : Int32).toInt = 91 := by decide
  refine mz_Vj (As := [.int 91]) (rest := []) ⟨hx, hb, hml, hown, hts⟩ hK hM hS (k_X13_isSign l D cy ld ad am hD _ _ _ _ 91 gs hIF hIG hIR hg_2) ⟨callB_of 1 hts (wl_in mw_732) rfl rfl rfl (htl _ mw_5) (htl _ mw_729) hd_yX13_isSign ⟨(Nat.le_of_ble_eq_true rfl), (Nat.le_of_ble_eq_true rfl)⟩, htl _ mw_730, htl _ mw_731⟩ rfl hl.1 rfl (Nat.le_of_ble_eq_true rfl) dX13_readPart_3 ⟨(Nat.le_of_ble_eq_true rfl), (Nat.le_of_ble_eq_true rfl)⟩ (fun v1 H locs hpo hM hS => ?_)
  obtain ⟨hpo2, hpo3, hpo4, hpo5, hpo6⟩ := hpo
  have hq_v1 := tk_rng v1
  refine lv_if_eq (tgt := 17) hx hb dX13_readPart_6 (by decide) (fun c9 => ?_) (fun c9 => ?_)
  · have hc11 : v1.toInt = 0 := (fi_eq rfl (show (0 : Int32).toInt = 0 by decide)).mp c9
    refine lv_aload_n hx hb dX13_readPart_17 rfl (lv_at hl 0 rfl) ?_
    refine mz_getI hx hb htl hown hK hM 20 (Nat.le_of_ble_eq_true rfl) rfl (htl _ mw_675) (fun _ h9 => h9) dX13_readPart_18 (fun v13 hf12 => ?_)
    have hq_v13 := tk_rng v13
    have hr_v13 : 0 ≤ v13.toInt ∧ v13.toInt ≤ 1 := hIF.at hf12
    refine lv_if_eq (tgt := 31) hx hb dX13_readPart_21 (by decide) (fun c9 => ?_) (fun c9 => ?_)
    · have hc14 : v13.toInt = 0 := (fi_eq rfl (show (0 : Int32).toInt = 0 by decide)).mp c9
      refine lv_aload_n hx hb dX13_readPart_31 rfl (lv_at hl 0 rfl) ?_
      refine mz_Vj (As := []) (rest := []) ⟨hx, hb, hml, hown, hts⟩ hK hM hS (k_X13_partAt l D cy ld ad am hD _ _ _ _ gs hIF hIG hIR hg_2) ⟨callB_of 0 hts (wl_in mw_750) rfl rfl rfl (htl _ mw_5) (htl _ mw_747) hd_yX13_partAt ⟨(Nat.le_of_ble_eq_true rfl), (Nat.le_of_ble_eq_true rfl)⟩, htl _ mw_748, htl _ mw_749⟩ rfl hl.1 rfl (Nat.le_of_ble_eq_true rfl) dX13_readPart_32 ⟨(Nat.le_of_ble_eq_true rfl), (Nat.le_of_ble_eq_true rfl)⟩ (fun v15 H locs hpo hM hS => ?_)
      obtain ⟨hpo16, hpo17, hpo18⟩ := hpo
      have hq_v15 := tk_rng v15
      refine lv_istore_n (lv' := [(1, .int v15), (0, .ref am)]) hx hb dX13_readPart_35 rfl hl (by decide) rfl (fun ls hl => ?_)
      refine lv_aload_n hx hb dX13_readPart_36 rfl (lv_at hl 1 rfl) ?_
      refine mz_getI hx hb htl hown hK hM 16 (Nat.le_of_ble_eq_true rfl) rfl (htl _ mw_688) (fun _ h9 => h9) dX13_readPart_37 (fun v9 e9 => ?_)
      refine fx_ti (v := gs) (e9.symm.trans hg_2) ?_
      refine lv_iconst (v := 2) hx hb dX13_readPart_40 (by decide) ?_
      refine lv_icmp_ne (tgt := 59) hx hb dX13_readPart_41 (by decide) (fun c9 => ?_) (fun c9 => ?_)
      · have hc20 : ¬ (gs.toInt = 2) := fun h9 => c9 ((fi_eq rfl (show (2 : Int32).toInt = 2 by decide)).mpr h9)
        refine lv_iconst (v := 0) hx hb dX13_readPart_59 (by decide) ?_
        refine lv_istore_n (lv' := [(2, .int 0), (1, .int v15), (0, .ref am)]) hx hb dX13_readPart_60 rfl hl (by decide) rfl (fun ls hl => ?_)
        refine lv_aload_n hx hb dX13_readPart_61 rfl (lv_at hl 2 rfl) ?_
        refine lv_iload_n hx hb dX13_readPart_62 rfl (lv_at hl 1 rfl) ?_
        refine lv_iconst (v := (-1)) hx hb dX13_readPart_63 (by decide) ?_
        refine lv_icmp_ne (tgt := 71) hx hb dX13_readPart_64 (by decide) (fun c9 => ?_) (fun c9 => ?_)
        · have hc21 : ¬ (v15.toInt = (-1)) := fun h9 => c9 ((fi_eq rfl (show ((-1) : Int32).toInt = (-1) by decide)).mpr h9)
          have hwk_22 : gs.toInt + (-1) = 0 ∧ 1 ≤ v15.toInt := by omega
          have hwk_23 : 0 ≤ (-1) * gf.toInt + gt.toInt + (-1) := by omega
          refine lv_iconst (v := 1) hx hb dX13_readPart_71 (by decide) ?_
          refine lv_goto (tgt := 76) hx hb dX13_readPart_72 (by decide) ?_
          refine lv_iload_n hx hb dX13_readPart_76 rfl (lv_at hl 1 rfl) ?_
          refine lv_iconst (v := (-1)) hx hb dX13_readPart_77 (by decide) ?_
          refine lv_icmp_ne (tgt := 85) hx hb dX13_readPart_78 (by decide) (fun _ => ?_) (fun c9 => absurd (show v15.toInt = (-1) from (fi_eq rfl (show ((-1) : Int32).toInt = (-1) by decide)).mp c9) (by omega))
          refine lv_iload_n hx hb dX13_readPart_85 rfl (lv_at hl 1 rfl) ?_
          refine lv_iload_n hx hb dX13_readPart_86 rfl (lv_at hl 0 rfl) ?_
          refine lv_if_eq (tgt := 98) hx hb dX13_readPart_87 (by decide) (fun _ => ?_) (fun c9 => absurd (by decide) c9)
          refine lv_iconst (v := 0) hx hb dX13_readPart_98 (by decide) ?_
          have hk_1 : (1 : Int32).toInt = 1 := by decide
          have hk_0 : (0 : Int32).toInt = 0 := by decide
          refine mz_Vv (As := [.int 1, .int v15, .int 0]) (rest := []) ⟨hx, hb, hml, hown, hts⟩ hK hM hS (k_X13_leaf l D cy ld ad am hD _ _ _ _ 1 v15 0 gf gt gs gp gw gb gc gd zs hIF hIG hIR hg_0 hg_1 hg_2 hg_3 hg_4 hg_5 hg_6 hg_7 (by omega) (by omega) (by omega) (by omega) (by omega) (by omega) (by omega) (by omega) (by omega) (by omega) (by omega) (by omega) hPI) ⟨callB_of 3 hts (wl_in mw_754) rfl rfl rfl (htl _ mw_5) (htl _ mw_751) hd_yX13_leaf ⟨(Nat.le_of_ble_eq_true rfl), (Nat.le_of_ble_eq_true rfl)⟩, htl _ mw_752, htl _ mw_753⟩ rfl hl.1 rfl (Nat.le_of_ble_eq_true rfl) dX13_readPart_99 ⟨(Nat.le_of_ble_eq_true rfl), (Nat.le_of_ble_eq_true rfl)⟩ (fun H locs F G R S hpo hM hS => ?_)
          obtain ⟨hIF, hIG, hIR, hfr9, hrr9, hgr9, hpo24, hpo25, hpo26, hpo27, hpo28, hpo29, hpo30, hpo31, hx32⟩ := hpo
          have hFF := mz_fr (K := [14, 15, 16, 18, 19, 23, 26, 29, 30]) (Fa := Fa) hfr9 (fun _ _ => rfl) (by decide)
          have hRR := mz_fr (K := [24, 25, 27, 28]) (Fa := Ra) hrr9 (fun _ _ => rfl) (by decide)
          have hGG := mz_fr (K := [17]) (Fa := Ga) hgr9 (fun _ _ => rfl) (by decide)
          have hg_3 := (hfr9 13 (by decide)).trans hg_3
          have hg_7 := (hfr9 29 (by decide)).trans hg_7
          have hf12 := (hfr9 20 (by decide)).trans hf12
          obtain ⟨v35, hf34⟩ : ∃ z : Int32, F 14 = z := ⟨_, rfl⟩
          have hq_v35 := tk_rng v35
          rw [hf34] at hpo24 hpo26 hpo27 hpo28 hpo29 hpo31
          have hr_v35 : 0 ≤ v35.toInt ∧ v35.toInt ≤ 400 := hIF.at hf34
          obtain ⟨v37, hf36⟩ : ∃ z : Int32, F 15 = z := ⟨_, rfl⟩
          have hq_v37 := tk_rng v37
          rw [hf36] at hpo24 hpo25 hpo26 hpo27
          have hr_v37 : 0 ≤ v37.toInt ∧ v37.toInt ≤ 400 := hIF.at hf36
          obtain ⟨v39, hf38⟩ : ∃ z : Int32, F 16 = z := ⟨_, rfl⟩
          have hq_v39 := tk_rng v39
          rw [hf38] at hpo26 hpo27
          have hr_v39 : 0 ≤ v39.toInt ∧ v39.toInt ≤ 3 := hIF.at hf38
          obtain ⟨w41, hf40⟩ : ∃ z : Int64, G 17 = z := ⟨_, rfl⟩
          have hq_w41 := tk_rngL w41
          rw [hf40] at hpo27
          obtain ⟨v43, hf42⟩ : ∃ z : Int32, F 19 = z := ⟨_, rfl⟩
          have hq_v43 := tk_rng v43
          rw [hf42] at hpo31
          have hr_v43 : 0 ≤ v43.toInt ∧ v43.toInt ≤ 1 := hIF.at hf42
          obtain ⟨v45, hf44⟩ : ∃ z : Int32, F 23 = z := ⟨_, rfl⟩
          have hq_v45 := tk_rng v45
          rw [hf44] at hpo29 hpo30 hpo31
          have hr_v45 : 0 ≤ v45.toInt ∧ v45.toInt ≤ 400 := hIF.at hf44
          refine lv_aload_n hx hb dX13_readPart_102 rfl (lv_at hl 2 rfl) ?_
          refine mz_getI hx hb htl hown hK hM 20 (Nat.le_of_ble_eq_true rfl) rfl (htl _ mw_675) (fun _ h9 => h9) dX13_readPart_103 (fun v9 e9 => ?_)
          refine fx_ti (v := v13) (e9.symm.trans hf12) ?_
          refine lv_if_eq (tgt := 153) hx hb dX13_readPart_106 (by decide) (fun _ => ?_) (fun c9 => absurd ((fi_eq rfl (show (0 : Int32).toInt = 0 by decide)).mpr (show v13.toInt = 0 by omega)) c9)
          refine lv_iconst (v := 3) hx hb dX13_readPart_153 (by decide) ?_
          have hk_3 : (3 : Int32).toInt = 3 := by decide
          exact mz_iret (v := 3) hx hb hr rfl hlocks ⟨hIF, hIG, hIR, hFF, hRR, hGG, (by rw [hf34, hf36]; omega), (by rw [hf36]; omega), (by rw [hf34, hf36, hf38]; omega), (by rw [hf34, hf36, hf38, hf40]; omega), (by rw [hf34]; omega), (by rw [hf34, hf44, hg_7]; omega), (by rw [hf44]; omega), (by rw [hf34, hf42]; omega), (by omega), (by omega), (fun h9 => ⟨PT.mk (hx32 h9).1 (by decide) (fun h8 => absurd h8 (by decide)) (fun h8 => absurd h8 (by decide)) rfl rfl rfl rfl rfl rfl, (hx32 h9).2.1, (hx32 h9).2.2.1⟩)⟩ hM hS dX13_readPart_154
        · have hc21 : v15.toInt = (-1) := (fi_eq rfl (show ((-1) : Int32).toInt = (-1) by decide)).mp c9
          refine lv_iload_n hx hb dX13_readPart_67 rfl (lv_at hl 0 rfl) ?_
          refine lv_if_eq (tgt := 75) hx hb dX13_readPart_68 (by decide) (fun _ => ?_) (fun c9 => absurd (by decide) c9)
          refine lv_iconst (v := 0) hx hb dX13_readPart_75 (by decide) ?_
          refine lv_iload_n hx hb dX13_readPart_76 rfl (lv_at hl 1 rfl) ?_
          refine lv_iconst (v := (-1)) hx hb dX13_readPart_77 (by decide) ?_
          refine lv_icmp_ne (tgt := 85) hx hb dX13_readPart_78 (by decide) (fun c9 => absurd ((fi_eq rfl (show ((-1) : Int32).toInt = (-1) by decide)).mpr (show v15.toInt = (-1) by omega)) c9) (fun _ => ?_)
          refine lv_iconst (v := 0) hx hb dX13_readPart_81 (by decide) ?_
          refine lv_goto (tgt := 86) hx hb dX13_readPart_82 (by decide) ?_
          refine lv_iload_n hx hb dX13_readPart_86 rfl (lv_at hl 0 rfl) ?_
          refine lv_if_eq (tgt := 98) hx hb dX13_readPart_87 (by decide) (fun _ => ?_) (fun c9 => absurd (by decide) c9)
          refine lv_iconst (v := 0) hx hb dX13_readPart_98 (by decide) ?_
          have hk_0 : (0 : Int32).toInt = 0 := by decide
          have hk_0 : (0 : Int32).toInt = 0 := by decide
          have hk_0 : (0 : Int32).toInt = 0 := by decide
          refine mz_Vv (As := [.int 0, .int 0, .int 0]) (rest := []) ⟨hx, hb, hml, hown, hts⟩ hK hM hS (k_X13_leaf l D cy ld ad am hD _ _ _ _ 0 0 0 gf gt gs gp gw gb gc gd zs hIF hIG hIR hg_0 hg_1 hg_2 hg_3 hg_4 hg_5 hg_6 hg_7 (by omega) (by omega) (by omega) (by omega) (by omega) (by omega) (by omega) (by omega) (by omega) (by omega) (by omega) (by omega) hPI) ⟨callB_of 3 hts (wl_in mw_754) rfl rfl rfl (htl _ mw_5) (htl _ mw_751) hd_yX13_leaf ⟨(Nat.le_of_ble_eq_true rfl), (Nat.le_of_ble_eq_true rfl)⟩, htl _ mw_752, htl _ mw_753⟩ rfl hl.1 rfl (Nat.le_of_ble_eq_true rfl) dX13_readPart_99 ⟨(Nat.le_of_ble_eq_true rfl), (Nat.le_of_ble_eq_true rfl)⟩ (fun H locs F G R S hpo hM hS => ?_)
          obtain ⟨hIF, hIG, hIR, hfr9, hrr9, hgr9, hpo46, hpo47, hpo48, hpo49, hpo50, hpo51, hpo52, hpo53, hx54⟩ := hpo
          have hFF := mz_fr (K := [14, 15, 16, 18, 19, 23, 26, 29, 30]) (Fa := Fa) hfr9 (fun _ _ => rfl) (by decide)
          have hRR := mz_fr (K := [24, 25, 27, 28]) (Fa := Ra) hrr9 (fun _ _ => rfl) (by decide)
          have hGG := mz_fr (K := [17]) (Fa := Ga) hgr9 (fun _ _ => rfl) (by decide)
          have hg_3 := (hfr9 13 (by decide)).trans hg_3
          have hg_7 := (hfr9 29 (by decide)).trans hg_7
          have hf12 := (hfr9 20 (by decide)).trans hf12
          obtain ⟨v57, hf56⟩ : ∃ z : Int32, F 14 = z := ⟨_, rfl⟩
          have hq_v57 := tk_rng v57
          rw [hf56] at hpo46 hpo48 hpo49 hpo50 hpo51 hpo53
          have hr_v57 : 0 ≤ v57.toInt ∧ v57.toInt ≤ 400 := hIF.at hf56
          obtain ⟨v59, hf58⟩ : ∃ z : Int32, F 15 = z := ⟨_, rfl⟩
          have hq_v59 := tk_rng v59
          rw [hf58] at hpo46 hpo47 hpo48 hpo49
          have hr_v59 : 0 ≤ v59.toInt ∧ v59.toInt ≤ 400 := hIF.at hf58
          obtain ⟨v61, hf60⟩ : ∃ z : Int32, F 16 = z := ⟨_, rfl⟩
          have hq_v61 := tk_rng v61
          rw [hf60] at hpo48 hpo49
          have hr_v61 : 0 ≤ v61.toInt ∧ v61.toInt ≤ 3 := hIF.at hf60
          obtain ⟨w63, hf62⟩ : ∃ z : Int64, G 17 = z := ⟨_, rfl⟩
          have hq_w63 := tk_rngL w63
          rw [hf62] at hpo49
          obtain ⟨v65, hf64⟩ : ∃ z : Int32, F 19 = z := ⟨_, rfl⟩
          have hq_v65 := tk_rng v65
          rw [hf64] at hpo53
          have hr_v65 : 0 ≤ v65.toInt ∧ v65.toInt ≤ 1 := hIF.at hf64
          obtain ⟨v67, hf66⟩ : ∃ z : Int32, F 23 = z := ⟨_, rfl⟩
          have hq_v67 := tk_rng v67
          rw [hf66] at hpo51 hpo52 hpo53
          have hr_v67 : 0 ≤ v67.toInt ∧ v67.toInt ≤ 400 := hIF.at hf66
          refine lv_aload_n hx hb dX13_readPart_102 rfl (lv_at hl 2 rfl) ?_
          refine mz_getI hx hb htl hown hK hM 20 (Nat.le_of_ble_eq_true rfl) rfl (htl _ mw_675) (fun _ h9 => h9) dX13_readPart_103 (fun v9 e9 => ?_)
          refine fx_ti (v := v13) (e9.symm.trans hf12) ?_
          refine lv_if_eq (tgt := 153) hx hb dX13_readPart_106 (by decide) (fun _ => ?_) (fun c9 => absurd ((fi_eq rfl (show (0 : Int32).toInt = 0 by decide)).mpr (show v13.toInt = 0 by omega)) c9)
          refine lv_iconst (v := 3) hx hb dX13_readPart_153 (by decide) ?_
          have hk_3 : (3 : Int32).toInt = 3 := by decide
          exact mz_iret (v := 3) hx hb hr rfl hlocks ⟨hIF, hIG, hIR, hFF, hRR, hGG, (by rw [hf56, hf58]; omega), (by rw [hf58]; omega), (by rw [hf56, hf58, hf60]; omega), (by rw [hf56, hf58, hf60, hf62]; omega), (by rw [hf56]; omega), (by rw [hf56, hf66, hg_7]; omega), (by rw [hf66]; omega), (by rw [hf56, hf64]; omega), (by omega), (by omega), (fun h9 => ⟨PT.mk (hx54 h9).1 (by decide) (fun h8 => absurd h8 (by decide)) (fun h8 => absurd h8 (by decide)) rfl rfl rfl rfl rfl rfl, (hx54 h9).2.1, (hx54 h9).2.2.1⟩)⟩ hM hS dX13_readPart_154
      · have hc20 : gs.toInt = 2 := (fi_eq rfl (show (2 : Int32).toInt = 2 by decide)).mp c9
        have hwk_68 : 0 ≤ (-1) * gf.toInt + gt.toInt + (-1) := by omega
        refine lv_aload_n hx hb dX13_readPart_44 rfl (lv_at hl 1 rfl) ?_
        refine mz_getJ hx hb htl hown hK hM 17 (Nat.le_of_ble_eq_true rfl) rfl (htl _ mw_687) (fun _ h9 => h9) dX13_readPart_45 (fun v9 e9 => ?_)
        refine fx_tl (v := gw) (e9.symm.trans hg_4) ?_
        refine lv_ldc2 hx hb hown (htl _ mw_741) dX13_readPart_48 ?_
        refine W.lcmp hx hb dX13_readPart_51 ?_
        refine lv_if_gt (tgt := 59) hx hb dX13_readPart_52 (by decide) (fun c9 => ?_) (fun c9 => ?_)
        · have hc69 : 1000 < gw.toInt := ((lg_cmp_gt _ _).trans (fl_lt (show (1000 : Int64).toInt = 1000 by decide) rfl)).mp c9
          refine lv_iconst (v := 0) hx hb dX13_readPart_59 (by decide) ?_
          refine lv_istore_n (lv' := [(2, .int 0), (1, .int v15), (0, .ref am)]) hx hb dX13_readPart_60 rfl hl (by decide) rfl (fun ls hl => ?_)
          refine lv_aload_n hx hb dX13_readPart_61 rfl (lv_at hl 2 rfl) ?_
          refine lv_iload_n hx hb dX13_readPart_62 rfl (lv_at hl 1 rfl) ?_
          refine lv_iconst (v := (-1)) hx hb dX13_readPart_63 (by decide) ?_
          refine lv_icmp_ne (tgt := 71) hx hb dX13_readPart_64 (by decide) (fun c9 => ?_) (fun c9 => ?_)
          · have hc70 : ¬ (v15.toInt = (-1)) := fun h9 => c9 ((fi_eq rfl (show ((-1) : Int32).toInt = (-1) by decide)).mpr h9)
            have hwk_71 : gs.toInt + (-1) = 0 ∧ 1 ≤ v15.toInt := by omega
            have hwk_72 : 0 ≤ (-1) * gf.toInt + gt.toInt + (-2) := by omega
            exfalso
            omega
          · have hc70 : v15.toInt = (-1) := (fi_eq rfl (show ((-1) : Int32).toInt = (-1) by decide)).mp c9
            refine lv_iload_n hx hb dX13_readPart_67 rfl (lv_at hl 0 rfl) ?_
            refine lv_if_eq (tgt := 75) hx hb dX13_readPart_68 (by decide) (fun _ => ?_) (fun c9 => absurd (by decide) c9)
            refine lv_iconst (v := 0) hx hb dX13_readPart_75 (by decide) ?_
            refine lv_iload_n hx hb dX13_readPart_76 rfl (lv_at hl 1 rfl) ?_
            refine lv_iconst (v := (-1)) hx hb dX13_readPart_77 (by decide) ?_
            refine lv_icmp_ne (tgt := 85) hx hb dX13_readPart_78 (by decide) (fun c9 => absurd ((fi_eq rfl (show ((-1) : Int32).toInt = (-1) by decide)).mpr (show v15.toInt = (-1) by omega)) c9) (fun _ => ?_)
            refine lv_iconst (v := 0) hx hb dX13_readPart_81 (by decide) ?_
            refine lv_goto (tgt := 86) hx hb dX13_readPart_82 (by decide) ?_
            refine lv_iload_n hx hb dX13_readPart_86 rfl (lv_at hl 0 rfl) ?_
            refine lv_if_eq (tgt := 98) hx hb dX13_readPart_87 (by decide) (fun _ => ?_) (fun c9 => absurd (by decide) c9)
            refine lv_iconst (v := 0) hx hb dX13_readPart_98 (by decide) ?_
            have hk_0 : (0 : Int32).toInt = 0 := by decide
            have hk_0 : (0 : Int32).toInt = 0 := by decide
            have hk_0 : (0 : Int32).toInt = 0 := by decide
            refine mz_Vv (As := [.int 0, .int 0, .int 0]) (rest := []) ⟨hx, hb, hml, hown, hts⟩ hK hM hS (k_X13_leaf l D cy ld ad am hD _ _ _ _ 0 0 0 gf gt gs gp gw gb gc gd zs hIF hIG hIR hg_0 hg_1 hg_2 hg_3 hg_4 hg_5 hg_6 hg_7 (by omega) (by omega) (by omega) (by omega) (by omega) (by omega) (by omega) (by omega) (by omega) (by omega) (by omega) (by omega) hPI) ⟨callB_of 3 hts (wl_in mw_754) rfl rfl rfl (htl _ mw_5) (htl _ mw_751) hd_yX13_leaf ⟨(Nat.le_of_ble_eq_true rfl), (Nat.le_of_ble_eq_true rfl)⟩, htl _ mw_752, htl _ mw_753⟩ rfl hl.1 rfl (Nat.le_of_ble_eq_true rfl) dX13_readPart_99 ⟨(Nat.le_of_ble_eq_true rfl), (Nat.le_of_ble_eq_true rfl)⟩ (fun H locs F G R S hpo hM hS => ?_)
            obtain ⟨hIF, hIG, hIR, hfr9, hrr9, hgr9, hpo73, hpo74, hpo75, hpo76, hpo77, hpo78, hpo79, hpo80, hx81⟩ := hpo
            have hFF := mz_fr (K := [14, 15, 16, 18, 19, 23, 26, 29, 30]) (Fa := Fa) hfr9 (fun _ _ => rfl) (by decide)
            have hRR := mz_fr (K := [24, 25, 27, 28]) (Fa := Ra) hrr9 (fun _ _ => rfl) (by decide)
            have hGG := mz_fr (K := [17]) (Fa := Ga) hgr9 (fun _ _ => rfl) (by decide)
            have hg_3 := (hfr9 13 (by decide)).trans hg_3
            have hg_7 := (hfr9 29 (by decide)).trans hg_7
            have hf12 := (hfr9 20 (by decide)).trans hf12
            obtain ⟨v84, hf83⟩ : ∃ z : Int32, F 14 = z := ⟨_, rfl⟩
            have hq_v84 := tk_rng v84
            rw [hf83] at hpo73 hpo75 hpo76 hpo77 hpo78 hpo80
            have hr_v84 : 0 ≤ v84.toInt ∧ v84.toInt ≤ 400 := hIF.at hf83
            obtain ⟨v86, hf85⟩ : ∃ z : Int32, F 15 = z := ⟨_, rfl⟩
            have hq_v86 := tk_rng v86
            rw [hf85] at hpo73 hpo74 hpo75 hpo76
            have hr_v86 : 0 ≤ v86.toInt ∧ v86.toInt ≤ 400 := hIF.at hf85
            obtain ⟨v88, hf87⟩ : ∃ z : Int32, F 16 = z := ⟨_, rfl⟩
            have hq_v88 := tk_rng v88
            rw [hf87] at hpo75 hpo76
            have hr_v88 : 0 ≤ v88.toInt ∧ v88.toInt ≤ 3 := hIF.at hf87
            obtain ⟨w90, hf89⟩ : ∃ z : Int64, G 17 = z := ⟨_, rfl⟩
            have hq_w90 := tk_rngL w90
            rw [hf89] at hpo76
            obtain ⟨v92, hf91⟩ : ∃ z : Int32, F 19 = z := ⟨_, rfl⟩
            have hq_v92 := tk_rng v92
            rw [hf91] at hpo80
            have hr_v92 : 0 ≤ v92.toInt ∧ v92.toInt ≤ 1 := hIF.at hf91
            obtain ⟨v94, hf93⟩ : ∃ z : Int32, F 23 = z := ⟨_, rfl⟩
            have hq_v94 := tk_rng v94
            rw [hf93] at hpo78 hpo79 hpo80
            have hr_v94 : 0 ≤ v94.toInt ∧ v94.toInt ≤ 400 := hIF.at hf93
            refine lv_aload_n hx hb dX13_readPart_102 rfl (lv_at hl 2 rfl) ?_
            refine mz_getI hx hb htl hown hK hM 20 (Nat.le_of_ble_eq_true rfl) rfl (htl _ mw_675) (fun _ h9 => h9) dX13_readPart_103 (fun v9 e9 => ?_)
            refine fx_ti (v := v13) (e9.symm.trans hf12) ?_
            refine lv_if_eq (tgt := 153) hx hb dX13_readPart_106 (by decide) (fun _ => ?_) (fun c9 => absurd ((fi_eq rfl (show (0 : Int32).toInt = 0 by decide)).mpr (show v13.toInt = 0 by omega)) c9)
            refine lv_iconst (v := 3) hx hb dX13_readPart_153 (by decide) ?_
            have hk_3 : (3 : Int32).toInt = 3 := by decide
            exact mz_iret (v := 3) hx hb hr rfl hlocks ⟨hIF, hIG, hIR, hFF, hRR, hGG, (by rw [hf83, hf85]; omega), (by rw [hf85]; omega), (by rw [hf83, hf85, hf87]; omega), (by rw [hf83, hf85, hf87, hf89]; omega), (by rw [hf83]; omega), (by rw [hf83, hf93, hg_7]; omega), (by rw [hf93]; omega), (by rw [hf83, hf91]; omega), (by omega), (by omega), (fun h9 => ⟨PT.mk (hx81 h9).1 (by decide) (fun h8 => absurd h8 (by decide)) (fun h8 => absurd h8 (by decide)) rfl rfl rfl rfl rfl rfl, (hx81 h9).2.1, (hx81 h9).2.2.1⟩)⟩ hM hS dX13_readPart_154
        · have hc69 : ¬ (1000 < gw.toInt) := fun h9 => c9 (((lg_cmp_gt _ _).trans (fl_lt (show (1000 : Int64).toInt = 1000 by decide) rfl)).mpr h9)
          refine lv_iconst (v := 1) hx hb dX13_readPart_55 (by decide) ?_
          refine lv_goto (tgt := 60) hx hb dX13_readPart_56 (by decide) ?_
          refine lv_istore_n (lv' := [(2, .int 1), (1, .int v15), (0, .ref am)]) hx hb dX13_readPart_60 rfl hl (by decide) rfl (fun ls hl => ?_)
          refine lv_aload_n hx hb dX13_readPart_61 rfl (lv_at hl 2 rfl) ?_
          refine lv_iload_n hx hb dX13_readPart_62 rfl (lv_at hl 1 rfl) ?_
          refine lv_iconst (v := (-1)) hx hb dX13_readPart_63 (by decide) ?_
          refine lv_icmp_ne (tgt := 71) hx hb dX13_readPart_64 (by decide) (fun c9 => ?_) (fun c9 => ?_)
          · have hc95 : ¬ (v15.toInt = (-1)) := fun h9 => c9 ((fi_eq rfl (show ((-1) : Int32).toInt = (-1) by decide)).mpr h9)
            have hwk_96 : gs.toInt + (-1) = 0 ∧ 1 ≤ v15.toInt := by omega
            exfalso
            omega
          · have hc95 : v15.toInt = (-1) := (fi_eq rfl (show ((-1) : Int32).toInt = (-1) by decide)).mp c9
            refine lv_iload_n hx hb dX13_readPart_67 rfl (lv_at hl 0 rfl) ?_
            refine lv_if_eq (tgt := 75) hx hb dX13_readPart_68 (by decide) (fun c9 => absurd c9 (by decide)) (fun _ => ?_)
            refine lv_iconst (v := 1) hx hb dX13_readPart_71 (by decide) ?_
            refine lv_goto (tgt := 76) hx hb dX13_readPart_72 (by decide) ?_
            refine lv_iload_n hx hb dX13_readPart_76 rfl (lv_at hl 1 rfl) ?_
            refine lv_iconst (v := (-1)) hx hb dX13_readPart_77 (by decide) ?_
            refine lv_icmp_ne (tgt := 85) hx hb dX13_readPart_78 (by decide) (fun c9 => absurd ((fi_eq rfl (show ((-1) : Int32).toInt = (-1) by decide)).mpr (show v15.toInt = (-1) by omega)) c9) (fun _ => ?_)
            refine lv_iconst (v := 0) hx hb dX13_readPart_81 (by decide) ?_
            refine lv_goto (tgt := 86) hx hb dX13_readPart_82 (by decide) ?_
            refine lv_iload_n hx hb dX13_readPart_86 rfl (lv_at hl 0 rfl) ?_
            refine lv_if_eq (tgt := 98) hx hb dX13_readPart_87 (by decide) (fun c9 => absurd c9 (by decide)) (fun _ => ?_)
            refine lv_aload_n hx hb dX13_readPart_90 rfl (lv_at hl 2 rfl) ?_
            refine mz_getJ hx hb htl hown hK hM 17 (Nat.le_of_ble_eq_true rfl) rfl (htl _ mw_687) (fun _ h9 => h9) dX13_readPart_91 (fun v9 e9 => ?_)
            refine fx_tl (v := gw) (e9.symm.trans hg_4) ?_
            obtain ⟨v97, e_v97⟩ : ∃ z : Int32, gw.toInt32 = z := ⟨_, rfl⟩
            refine lv_l2i (v := v97) hx hb dX13_readPart_94 e_v97 ?_
            have hq_v97 := tk_rng v97
            have hl_v97 : -2147483648 ≤ gw.toInt → gw.toInt ≤ 2147483647 → v97.toInt = gw.toInt := fun h1 h2 => e_v97 ▸ tk_l2i h1 h2
            refine lv_goto (tgt := 99) hx hb dX13_readPart_95 (by decide) ?_
            have hk_1 : (1 : Int32).toInt = 1 := by decide
            have hk_0 : (0 : Int32).toInt = 0 := by decide
            refine mz_Vv (As := [.int 1, .int 0, .int v97]) (rest := []) ⟨hx, hb, hml, hown, hts⟩ hK hM hS (k_X13_leaf l D cy ld ad am hD _ _ _ _ 1 0 v97 gf gt gs gp gw gb gc gd zs hIF hIG hIR hg_0 hg_1 hg_2 hg_3 hg_4 hg_5 hg_6 hg_7 (by omega) (by omega) (by omega) (by omega) (by omega) (by omega) (by omega) (by omega) (by omega) (by omega) (by omega) (by omega) hPI) ⟨callB_of 3 hts (wl_in mw_754) rfl rfl rfl (htl _ mw_5) (htl _ mw_751) hd_yX13_leaf ⟨(Nat.le_of_ble_eq_true rfl), (Nat.le_of_ble_eq_true rfl)⟩, htl _ mw_752, htl _ mw_753⟩ rfl hl.1 rfl (Nat.le_of_ble_eq_true rfl) dX13_readPart_99 ⟨(Nat.le_of_ble_eq_true rfl), (Nat.le_of_ble_eq_true rfl)⟩ (fun H locs F G R S hpo hM hS => ?_)
            obtain ⟨hIF, hIG, hIR, hfr9, hrr9, hgr9, hpo98, hpo99, hpo100, hpo101, hpo102, hpo103, hpo104, hpo105, hx106⟩ := hpo
            have hFF := mz_fr (K := [14, 15, 16, 18, 19, 23, 26, 29, 30]) (Fa := Fa) hfr9 (fun _ _ => rfl) (by decide)
            have hRR := mz_fr (K := [24, 25, 27, 28]) (Fa := Ra) hrr9 (fun _ _ => rfl) (by decide)
            have hGG := mz_fr (K := [17]) (Fa := Ga) hgr9 (fun _ _ => rfl) (by decide)
            have hg_3 := (hfr9 13 (by decide)).trans hg_3
            have hg_7 := (hfr9 29 (by decide)).trans hg_7
            have hf12 := (hfr9 20 (by decide)).trans hf12
            obtain ⟨v109, hf108⟩ : ∃ z : Int32, F 14 = z := ⟨_, rfl⟩
            have hq_v109 := tk_rng v109
            rw [hf108] at hpo98 hpo100 hpo101 hpo102 hpo103 hpo105
            have hr_v109 : 0 ≤ v109.toInt ∧ v109.toInt ≤ 400 := hIF.at hf108
            obtain ⟨v111, hf110⟩ : ∃ z : Int32, F 15 = z := ⟨_, rfl⟩
            have hq_v111 := tk_rng v111
            rw [hf110] at hpo98 hpo99 hpo100 hpo101
            have hr_v111 : 0 ≤ v111.toInt ∧ v111.toInt ≤ 400 := hIF.at hf110
            obtain ⟨v113, hf112⟩ : ∃ z : Int32, F 16 = z := ⟨_, rfl⟩
            have hq_v113 := tk_rng v113
            rw [hf112] at hpo100 hpo101
            have hr_v113 : 0 ≤ v113.toInt ∧ v113.toInt ≤ 3 := hIF.at hf112
            obtain ⟨w115, hf114⟩ : ∃ z : Int64, G 17 = z := ⟨_, rfl⟩
            have hq_w115 := tk_rngL w115
            rw [hf114] at hpo101
            obtain ⟨v117, hf116⟩ : ∃ z : Int32, F 19 = z := ⟨_, rfl⟩
            have hq_v117 := tk_rng v117
            rw [hf116] at hpo105
            have hr_v117 : 0 ≤ v117.toInt ∧ v117.toInt ≤ 1 := hIF.at hf116
            obtain ⟨v119, hf118⟩ : ∃ z : Int32, F 23 = z := ⟨_, rfl⟩
            have hq_v119 := tk_rng v119
            rw [hf118] at hpo103 hpo104 hpo105
            have hr_v119 : 0 ≤ v119.toInt ∧ v119.toInt ≤ 400 := hIF.at hf118
            refine lv_aload_n hx hb dX13_readPart_102 rfl (lv_at hl 2 rfl) ?_
            refine mz_getI hx hb htl hown hK hM 20 (Nat.le_of_ble_eq_true rfl) rfl (htl _ mw_675) (fun _ h9 => h9) dX13_readPart_103 (fun v9 e9 => ?_)
            refine fx_ti (v := v13) (e9.symm.trans hf12) ?_
            refine lv_if_eq (tgt := 153) hx hb dX13_readPart_106 (by decide) (fun _ => ?_) (fun c9 => absurd ((fi_eq rfl (show (0 : Int32).toInt = 0 by decide)).mpr (show v13.toInt = 0 by omega)) c9)
            refine lv_iconst (v := 3) hx hb dX13_readPart_153 (by decide) ?_
            have hk_3 : (3 : Int32).toInt = 3 := by decide
            exact mz_iret (v := 3) hx hb hr rfl hlocks ⟨hIF, hIG, hIR, hFF, hRR, hGG, (by rw [hf108, hf110]; omega), (by rw [hf110]; omega), (by rw [hf108, hf110, hf112]; omega), (by rw [hf108, hf110, hf112, hf114]; omega), (by rw [hf108]; omega), (by rw [hf108, hf118, hg_7]; omega), (by rw [hf118]; omega), (by rw [hf108, hf116]; omega), (by omega), (by omega), (fun h9 => ⟨PT.mk (hx106 h9).1 (by decide) (fun h8 => absurd h8 (by decide)) (fun h8 => absurd h8 (by decide)) rfl rfl rfl rfl rfl rfl, (hx106 h9).2.1, (hx106 h9).2.2.1⟩)⟩ hM hS dX13_readPart_154
    · have hc14 : ¬ (v13.toInt = 0) := fun h9 => c9 ((fi_eq rfl (show (0 : Int32).toInt = 0 by decide)).mpr h9)
      refine lv_aload_n hx hb dX13_readPart_24 rfl (lv_at hl 0 rfl) ?_
      refine mz_Vj (As := []) (rest := []) ⟨hx, hb, hml, hown, hts⟩ hK hM hS (k_X13_orderPartAt l D cy ld ad am hD _ _ _ _ gs hIF hIG hIR hg_2) ⟨callB_of 0 hts (wl_in mw_746) rfl rfl rfl (htl _ mw_5) (htl _ mw_743) hd_yX13_orderPartAt ⟨(Nat.le_of_ble_eq_true rfl), (Nat.le_of_ble_eq_true rfl)⟩, htl _ mw_744, htl _ mw_745⟩ rfl hl.1 rfl (Nat.le_of_ble_eq_true rfl) dX13_readPart_25 ⟨(Nat.le_of_ble_eq_true rfl), (Nat.le_of_ble_eq_true rfl)⟩ (fun v120 H locs hpo hM hS => ?_)
      obtain ⟨hpo121, hpo122, hpo123⟩ := hpo
      have hq_v120 := tk_rng v120
      refine lv_goto (tgt := 35) hx hb dX13_readPart_28 (by decide) ?_
      refine lv_istore_n (lv' := [(1, .int v120), (0, .ref am)]) hx hb dX13_readPart_35 rfl hl (by decide) rfl (fun ls hl => ?_)
      refine lv_aload_n hx hb dX13_readPart_36 rfl (lv_at hl 1 rfl) ?_
      refine mz_getI hx hb htl hown hK hM 16 (Nat.le_of_ble_eq_true rfl) rfl (htl _ mw_688) (fun _ h9 => h9) dX13_readPart_37 (fun v9 e9 => ?_)
      refine fx_ti (v := gs) (e9.symm.trans hg_2) ?_
      refine lv_iconst (v := 2) hx hb dX13_readPart_40 (by decide) ?_
      refine lv_icmp_ne (tgt := 59) hx hb dX13_readPart_41 (by decide) (fun c9 => ?_) (fun c9 => ?_)
      · have hc125 : ¬ (gs.toInt = 2) := fun h9 => c9 ((fi_eq rfl (show (2 : Int32).toInt = 2 by decide)).mpr h9)
        refine lv_iconst (v := 0) hx hb dX13_readPart_59 (by decide) ?_
        refine lv_istore_n (lv' := [(2, .int 0), (1, .int v120), (0, .ref am)]) hx hb dX13_readPart_60 rfl hl (by decide) rfl (fun ls hl => ?_)
        refine lv_aload_n hx hb dX13_readPart_61 rfl (lv_at hl 2 rfl) ?_
        refine lv_iload_n hx hb dX13_readPart_62 rfl (lv_at hl 1 rfl) ?_
        refine lv_iconst (v := (-1)) hx hb dX13_readPart_63 (by decide) ?_
        refine lv_icmp_ne (tgt := 71) hx hb dX13_readPart_64 (by decide) (fun c9 => ?_) (fun c9 => ?_)
        · have hc126 : ¬ (v120.toInt = (-1)) := fun h9 => c9 ((fi_eq rfl (show ((-1) : Int32).toInt = (-1) by decide)).mpr h9)
          have hwk_127 : gs.toInt + (-1) = 0 ∧ 1 ≤ v120.toInt := by omega
          have hwk_128 : 0 ≤ (-1) * gf.toInt + gt.toInt + (-1) := by omega
          refine lv_iconst (v := 1) hx hb dX13_readPart_71 (by decide) ?_
          refine lv_goto (tgt := 76) hx hb dX13_readPart_72 (by decide) ?_
          refine lv_iload_n hx hb dX13_readPart_76 rfl (lv_at hl 1 rfl) ?_
          refine lv_iconst (v := (-1)) hx hb dX13_readPart_77 (by decide) ?_
          refine lv_icmp_ne (tgt := 85) hx hb dX13_readPart_78 (by decide) (fun _ => ?_) (fun c9 => absurd (show v120.toInt = (-1) from (fi_eq rfl (show ((-1) : Int32).toInt = (-1) by decide)).mp c9) (by omega))
          refine lv_iload_n hx hb dX13_readPart_85 rfl (lv_at hl 1 rfl) ?_
          refine lv_iload_n hx hb dX13_readPart_86 rfl (lv_at hl 0 rfl) ?_
          refine lv_if_eq (tgt := 98) hx hb dX13_readPart_87 (by decide) (fun _ => ?_) (fun c9 => absurd (by decide) c9)
          refine lv_iconst (v := 0) hx hb dX13_readPart_98 (by decide) ?_
          have hk_1 : (1 : Int32).toInt = 1 := by decide
          have hk_0 : (0 : Int32).toInt = 0 := by decide
          refine mz_Vv (As := [.int 1, .int v120, .int 0]) (rest := []) ⟨hx, hb, hml, hown, hts⟩ hK hM hS (k_X13_leaf l D cy ld ad am hD _ _ _ _ 1 v120 0 gf gt gs gp gw gb gc gd zs hIF hIG hIR hg_0 hg_1 hg_2 hg_3 hg_4 hg_5 hg_6 hg_7 (by omega) (by omega) (by omega) (by omega) (by omega) (by omega) (by omega) (by omega) (by omega) (by omega) (by omega) (by omega) hPI) ⟨callB_of 3 hts (wl_in mw_754) rfl rfl rfl (htl _ mw_5) (htl _ mw_751) hd_yX13_leaf ⟨(Nat.le_of_ble_eq_true rfl), (Nat.le_of_ble_eq_true rfl)⟩, htl _ mw_752, htl _ mw_753⟩ rfl hl.1 rfl (Nat.le_of_ble_eq_true rfl) dX13_readPart_99 ⟨(Nat.le_of_ble_eq_true rfl), (Nat.le_of_ble_eq_true rfl)⟩ (fun H locs F G R S hpo hM hS => ?_)
          obtain ⟨hIF, hIG, hIR, hfr9, hrr9, hgr9, hpo129, hpo130, hpo131, hpo132, hpo133, hpo134, hpo135, hpo136, hx137⟩ := hpo
          have hFF := mz_fr (K := [14, 15, 16, 18, 19, 23, 26, 29, 30]) (Fa := Fa) hfr9 (fun _ _ => rfl) (by decide)
          have hRR := mz_fr (K := [24, 25, 27, 28]) (Fa := Ra) hrr9 (fun _ _ => rfl) (by decide)
          have hGG := mz_fr (K := [17]) (Fa := Ga) hgr9 (fun _ _ => rfl) (by decide)
          have hg_3 := (hfr9 13 (by decide)).trans hg_3
          have hg_7 := (hfr9 29 (by decide)).trans hg_7
          have hf12 := (hfr9 20 (by decide)).trans hf12
          obtain ⟨v140, hf139⟩ : ∃ z : Int32, F 14 = z := ⟨_, rfl⟩
          have hq_v140 := tk_rng v140
          rw [hf139] at hpo129 hpo131 hpo132 hpo133 hpo134 hpo136
          have hr_v140 : 0 ≤ v140.toInt ∧ v140.toInt ≤ 400 := hIF.at hf139
          obtain ⟨v142, hf141⟩ : ∃ z : Int32, F 15 = z := ⟨_, rfl⟩
          have hq_v142 := tk_rng v142
          rw [hf141] at hpo129 hpo130 hpo131 hpo132
          have hr_v142 : 0 ≤ v142.toInt ∧ v142.toInt ≤ 400 := hIF.at hf141
          obtain ⟨v144, hf143⟩ : ∃ z : Int32, F 16 = z := ⟨_, rfl⟩
          have hq_v144 := tk_rng v144
          rw [hf143] at hpo131 hpo132
          have hr_v144 : 0 ≤ v144.toInt ∧ v144.toInt ≤ 3 := hIF.at hf143
          obtain ⟨w146, hf145⟩ : ∃ z : Int64, G 17 = z := ⟨_, rfl⟩
          have hq_w146 := tk_rngL w146
          rw [hf145] at hpo132
          obtain ⟨v148, hf147⟩ : ∃ z : Int32, F 19 = z := ⟨_, rfl⟩
          have hq_v148 := tk_rng v148
          rw [hf147] at hpo136
          have hr_v148 : 0 ≤ v148.toInt ∧ v148.toInt ≤ 1 := hIF.at hf147
          obtain ⟨v150, hf149⟩ : ∃ z : Int32, F 23 = z := ⟨_, rfl⟩
          have hq_v150 := tk_rng v150
          rw [hf149] at hpo134 hpo135 hpo136
          have hr_v150 : 0 ≤ v150.toInt ∧ v150.toInt ≤ 400 := hIF.at hf149
          refine lv_aload_n hx hb dX13_readPart_102 rfl (lv_at hl 2 rfl) ?_
          refine mz_getI hx hb htl hown hK hM 20 (Nat.le_of_ble_eq_true rfl) rfl (htl _ mw_675) (fun _ h9 => h9) dX13_readPart_103 (fun v9 e9 => ?_)
          refine fx_ti (v := v13) (e9.symm.trans hf12) ?_
          refine lv_if_eq (tgt := 153) hx hb dX13_readPart_106 (by decide) (fun c9 => absurd (show v13.toInt = 0 from (fi_eq rfl (show (0 : Int32).toInt = 0 by decide)).mp c9) (by omega)) (fun _ => ?_)
          refine lv_iload_n hx hb dX13_readPart_109 rfl (lv_at hl 1 rfl) ?_
          refine lv_bipush (v := 6) hx hb dX13_readPart_110 (by decide) ?_
          refine lv_icmp_lt (tgt := 153) hx hb dX13_readPart_112 (by decide) (fun c9 => ?_) (fun c9 => ?_)
          · have hc151 : v120.toInt < 6 := (fi_lt rfl (show (6 : Int32).toInt = 6 by decide)).mp c9
            refine lv_iconst (v := 3) hx hb dX13_readPart_153 (by decide) ?_
            have hk_3 : (3 : Int32).toInt = 3 := by decide
            exact mz_iret (v := 3) hx hb hr rfl hlocks ⟨hIF, hIG, hIR, hFF, hRR, hGG, (by rw [hf139, hf141]; omega), (by rw [hf141]; omega), (by rw [hf139, hf141, hf143]; omega), (by rw [hf139, hf141, hf143, hf145]; omega), (by rw [hf139]; omega), (by rw [hf139, hf149, hg_7]; omega), (by rw [hf149]; omega), (by rw [hf139, hf147]; omega), (by omega), (by omega), (fun h9 => ⟨PT.mk (hx137 h9).1 (by decide) (fun h8 => absurd h8 (by decide)) (fun h8 => absurd h8 (by decide)) rfl rfl rfl rfl rfl rfl, (hx137 h9).2.1, (hx137 h9).2.2.1⟩)⟩ hM hS dX13_readPart_154
          · have hc151 : ¬ (v120.toInt < 6) := fun h9 => c9 ((fi_lt rfl (show (6 : Int32).toInt = 6 by decide)).mpr h9)
            refine lv_aload_n hx hb dX13_readPart_115 rfl (lv_at hl 2 rfl) ?_
            refine mz_getI hx hb htl hown hK hM 19 (Nat.le_of_ble_eq_true rfl) rfl (htl _ mw_668) (fun _ h9 => h9) dX13_readPart_116 (fun v9 e9 => ?_)
            refine fx_ti (v := v148) (e9.symm.trans hf147) ?_
            refine lv_if_ne (tgt := 153) hx hb dX13_readPart_119 (by decide) (fun c9 => ?_) (fun c9 => ?_)
            · have hc152 : ¬ (v148.toInt = 0) := fun h9 => c9 ((fi_eq rfl (show (0 : Int32).toInt = 0 by decide)).mpr h9)
              refine lv_iconst (v := 3) hx hb dX13_readPart_153 (by decide) ?_
              have hk_3 : (3 : Int32).toInt = 3 := by decide
              exact mz_iret (v := 3) hx hb hr rfl hlocks ⟨hIF, hIG, hIR, hFF, hRR, hGG, (by rw [hf139, hf141]; omega), (by rw [hf141]; omega), (by rw [hf139, hf141, hf143]; omega), (by rw [hf139, hf141, hf143, hf145]; omega), (by rw [hf139]; omega), (by rw [hf139, hf149, hg_7]; omega), (by rw [hf149]; omega), (by rw [hf139, hf147]; omega), (by omega), (by omega), (by rw [hf147]; exact fun h9 => absurd h9 (by omega))⟩ hM hS dX13_readPart_154
            · have hc152 : v148.toInt = 0 := (fi_eq rfl (show (0 : Int32).toInt = 0 by decide)).mp c9
              have hwk_153 : 0 ≤ (-1) * gf.toInt + v140.toInt + (-1) ∧ (-1) * gc.toInt + v150.toInt + (-1) = 0 := by omega
              refine lv_aload_n hx hb dX13_readPart_122 rfl (lv_at hl 2 rfl) ?_
              refine mz_getI hx hb htl hown hK hM 23 (Nat.le_of_ble_eq_true rfl) rfl (htl _ mw_670) (fun _ h9 => h9) dX13_readPart_123 (fun v9 e9 => ?_)
              refine fx_ti (v := v150) (e9.symm.trans hf149) ?_
              refine lv_iconst (v := 1) hx hb dX13_readPart_126 (by decide) ?_
              refine lv_isub hx hb dX13_readPart_127 ?_
              refine tk_sub rfl (show (1 : Int32).toInt = 1 by decide) (by omega) (by omega) (fun v154 h_v154 => ?_)
              refine lv_istore_n (lv' := [(3, .int v154), (2, .int 0), (1, .int v120), (0, .ref am)]) hx hb dX13_readPart_128 rfl hl (by decide) rfl (fun ls hl => ?_)
              have hlf := hx137 (by rw [hf147]; omega)
              rw [hf149, hg_7] at hlf
              have hPI : PI (R 24) (R 25) (R 27) (R 28) zs v150.toInt.toNat gd.toInt.toNat 1 := hlf.1
              have hLo := And.intro hlf.2.1 hlf.2.2.1
              have hop : R 24 v154.toInt.toNat = v120 := by rw [hlf.2.2.2, show v154.toInt.toNat = gc.toInt.toNat by omega]; exact pk_us
              refine lv_aload_n hx hb dX13_readPart_129 rfl (lv_at hl 3 rfl) ?_
              refine mz_getR hx hb htl hown hK hM 25 (Nat.le_of_ble_eq_true rfl) (Nat.le_of_ble_eq_true rfl) (htl _ mw_199) (fun _ h9 => h9) dX13_readPart_130 ?_
              refine lv_iload_n hx hb dX13_readPart_133 rfl (lv_at hl 0 rfl) ?_
              refine lv_aload_n hx hb dX13_readPart_134 rfl (lv_at hl 3 rfl) ?_
              refine lv_lconst (v := 0) hx hb dX13_readPart_135 (by decide) ?_
              refine lv_iload_n hx hb dX13_readPart_136 rfl (lv_at hl 2 rfl) ?_
              refine lv_bipush (v := 6) hx hb dX13_readPart_137 (by decide) ?_
              refine lv_icmp_ne (tgt := 148) hx hb dX13_readPart_139 (by decide) (fun c9 => ?_) (fun c9 => ?_)
              · have hc155 : ¬ (v120.toInt = 6) := fun h9 => c9 ((fi_eq rfl (show (6 : Int32).toInt = 6 by decide)).mpr h9)
                refine lv_lconst (v := 1) hx hb dX13_readPart_148 (by decide) ?_
                have hk_0 : (0 : Int64).toInt = 0 := by decide
                have hk_1 : (1 : Int64).toInt = 1 := by decide
                refine mz_Vi (As := [.long 0, .long 1]) (rest := [.int v154, .ref (ad 25)]) ⟨hx, hb, hml, hown, hts⟩ hK hM hS (k_X13_number l D cy ld ad am hD _ _ _ _ 0 1 v140 v142 v144 gp w146 v148 hIF hIG hIR hf139 hf141 hf143 hg_3 hf145 hf147 (by omega) (by omega) (by omega) (by omega) (by omega) (by omega) (by omega) (by omega)) ⟨callB_of 2 hts (wl_in mw_762) rfl rfl rfl (htl _ mw_5) (htl _ mw_759) hd_yX13_number ⟨(Nat.le_of_ble_eq_true rfl), (Nat.le_of_ble_eq_true rfl)⟩, htl _ mw_760, htl _ mw_761⟩ rfl hl.1 rfl (Nat.le_of_ble_eq_true rfl) dX13_readPart_149 ⟨(Nat.le_of_ble_eq_true rfl), (Nat.le_of_ble_eq_true rfl)⟩ (fun v156 H locs F G R S hpo hM hS => ?_)
                obtain ⟨hIF, hIG, hIR, hfr9, hrr9, hgr9, hpo157, hpo158, hpo159, hpo160, hpo161, hpo162, hpo163⟩ := hpo
                have hq_v156 := tk_rng v156
                have hFF := mz_fr (K := [14, 15, 16, 18, 19, 23, 26, 29, 30]) (Fa := Fa) hfr9 hFF (by decide)
                have hRR := mz_fr (K := [24, 25, 27, 28]) (Fa := Ra) hrr9 hRR (by decide)
                have hGG := mz_fr (K := [17]) (Fa := Ga) hgr9 hGG (by decide)
                have hg_3 := (hfr9 13 (by decide)).trans hg_3
                have hg_7 := (hfr9 29 (by decide)).trans hg_7
                have hf12 := (hfr9 20 (by decide)).trans hf12
                have hf149 := (hfr9 23 (by decide)).trans hf149
                obtain ⟨v166, hf165⟩ : ∃ z : Int32, F 14 = z := ⟨_, rfl⟩
                have hq_v166 := tk_rng v166
                rw [hf165] at hpo157 hpo159 hpo160 hpo161 hpo163
                have hr_v166 : 0 ≤ v166.toInt ∧ v166.toInt ≤ 400 := hIF.at hf165
                obtain ⟨v168, hf167⟩ : ∃ z : Int32, F 15 = z := ⟨_, rfl⟩
                have hq_v168 := tk_rng v168
                rw [hf167] at hpo157 hpo158 hpo159 hpo160
                have hr_v168 : 0 ≤ v168.toInt ∧ v168.toInt ≤ 400 := hIF.at hf167
                obtain ⟨v170, hf169⟩ : ∃ z : Int32, F 16 = z := ⟨_, rfl⟩
                have hq_v170 := tk_rng v170
                rw [hf169] at hpo159 hpo160
                have hr_v170 : 0 ≤ v170.toInt ∧ v170.toInt ≤ 3 := hIF.at hf169
                obtain ⟨w172, hf171⟩ : ∃ z : Int64, G 17 = z := ⟨_, rfl⟩
                have hq_w172 := tk_rngL w172
                rw [hf171] at hpo160
                obtain ⟨v174, hf173⟩ : ∃ z : Int32, F 19 = z := ⟨_, rfl⟩
                have hq_v174 := tk_rng v174
                rw [hf173] at hpo162 hpo163
                have hr_v174 : 0 ≤ v174.toInt ∧ v174.toInt ≤ 1 := hIF.at hf173
                have hPI := hPI.to (hrr9 24 (by decide)) (hrr9 25 (by decide)) (hrr9 27 (by decide)) (hrr9 28 (by decide)) rfl rfl
                have hLo := And.intro (hLo.1.to (hrr9 24 (by decide))) (hLo.2.to (hrr9 25 (by decide)))
                have hop := (congrFun (hrr9 24 (by decide)) _).trans hop
                refine mz_iast (x := v156) hx hb hK hD hM hS 25 (Nat.le_of_ble_eq_true rfl) rfl (nn := 400) rfl rfl (by omega) (by omega) dX13_readPart_152 (fun H locs R hM hS hw9 hj9 => ?_)
                have hIR := hIR.put hw9 hj9 trivial
                have hw25 := hw9
                have hPI := hPI.to (hj9 24 (by decide)) rfl (hj9 27 (by decide)) (hj9 28 (by decide)) rfl rfl
                have hop := (congrFun (hj9 24 (by decide)) _).trans hop
                have hLo := And.intro (hLo.1.to (hj9 24 (by decide))) hLo.2
                have hz9 := hPI.1
                have hRR := mz_frp (K := [24, 25, 27, 28]) (Fa := Ra) hj9 hRR (by decide)
                refine lv_iconst (v := 3) hx hb dX13_readPart_153 (by decide) ?_
                have hk_3 : (3 : Int32).toInt = 3 := by decide
                exact mz_iret (v := 3) hx hb hr rfl hlocks ⟨hIF, hIG, hIR, hFF, hRR, hGG, (by rw [hf165, hf167]; omega), (by rw [hf167]; omega), (by rw [hf165, hf167, hf169]; omega), (by rw [hf165, hf167, hf169, hf171]; omega), (by rw [hf165]; omega), (by rw [hf165, hf149, hg_7]; omega), (by rw [hf149]; omega), (by rw [hf165, hf173]; omega), (by omega), (by omega), (by rw [hf173]; exact fun h9 => ⟨PT.mk (PI.argset (n := v154.toInt.toNat) (y := v156) hPI (by rw [hop]; omega) (by omega) rfl) (by decide) (fun h8 => absurd h8 (by decide)) (fun h8 => absurd h8 (by decide)) rfl hw25 rfl rfl (by rw [hf149]) (by rw [hg_7]), hLo.1, (hLo.2.upd (n := v154.toInt.toNat) (by omega)).to hw25⟩)⟩ hM hS dX13_readPart_154
              · have hc155 : v120.toInt = 6 := (fi_eq rfl (show (6 : Int32).toInt = 6 by decide)).mp c9
                refine lv_ldc2 hx hb hown (htl _ mw_742) dX13_readPart_142 ?_
                refine lv_goto (tgt := 149) hx hb dX13_readPart_145 (by decide) ?_
                have hk_0 : (0 : Int64).toInt = 0 := by decide
                have hk_7 : (7 : Int64).toInt = 7 := by decide
                refine mz_Vi (As := [.long 0, .long 7]) (rest := [.int v154, .ref (ad 25)]) ⟨hx, hb, hml, hown, hts⟩ hK hM hS (k_X13_number l D cy ld ad am hD _ _ _ _ 0 7 v140 v142 v144 gp w146 v148 hIF hIG hIR hf139 hf141 hf143 hg_3 hf145 hf147 (by omega) (by omega) (by omega) (by omega) (by omega) (by omega) (by omega) (by omega)) ⟨callB_of 2 hts (wl_in mw_762) rfl rfl rfl (htl _ mw_5) (htl _ mw_759) hd_yX13_number ⟨(Nat.le_of_ble_eq_true rfl), (Nat.le_of_ble_eq_true rfl)⟩, htl _ mw_760, htl _ mw_761⟩ rfl hl.1 rfl (Nat.le_of_ble_eq_true rfl) dX13_readPart_149 ⟨(Nat.le_of_ble_eq_true rfl), (Nat.le_of_ble_eq_true rfl)⟩ (fun v176 H locs F G R S hpo hM hS => ?_)
                obtain ⟨hIF, hIG, hIR, hfr9, hrr9, hgr9, hpo177, hpo178, hpo179, hpo180, hpo181, hpo182, hpo183⟩ := hpo
                have hq_v176 := tk_rng v176
                have hFF := mz_fr (K := [14, 15, 16, 18, 19, 23, 26, 29, 30]) (Fa := Fa) hfr9 hFF (by decide)
                have hRR := mz_fr (K := [24, 25, 27, 28]) (Fa := Ra) hrr9 hRR (by decide)
                have hGG := mz_fr (K := [17]) (Fa := Ga) hgr9 hGG (by decide)
                have hg_3 := (hfr9 13 (by decide)).trans hg_3
                have hg_7 := (hfr9 29 (by decide)).trans hg_7
                have hf12 := (hfr9 20 (by decide)).trans hf12
                have hf149 := (hfr9 23 (by decide)).trans hf149
                obtain ⟨v186, hf185⟩ : ∃ z : Int32, F 14 = z := ⟨_, rfl⟩
                have hq_v186 := tk_rng v186
                rw [hf185] at hpo177 hpo179 hpo180 hpo181 hpo183
                have hr_v186 : 0 ≤ v186.toInt ∧ v186.toInt ≤ 400 := hIF.at hf185
                obtain ⟨v188, hf187⟩ : ∃ z : Int32, F 15 = z := ⟨_, rfl⟩
                have hq_v188 := tk_rng v188
                rw [hf187] at hpo177 hpo178 hpo179 hpo180
                have hr_v188 : 0 ≤ v188.toInt ∧ v188.toInt ≤ 400 := hIF.at hf187
                obtain ⟨v190, hf189⟩ : ∃ z : Int32, F 16 = z := ⟨_, rfl⟩
                have hq_v190 := tk_rng v190
                rw [hf189] at hpo179 hpo180
                have hr_v190 : 0 ≤ v190.toInt ∧ v190.toInt ≤ 3 := hIF.at hf189
                obtain ⟨w192, hf191⟩ : ∃ z : Int64, G 17 = z := ⟨_, rfl⟩
                have hq_w192 := tk_rngL w192
                rw [hf191] at hpo180
                obtain ⟨v194, hf193⟩ : ∃ z : Int32, F 19 = z := ⟨_, rfl⟩
                have hq_v194 := tk_rng v194
                rw [hf193] at hpo182 hpo183
                have hr_v194 : 0 ≤ v194.toInt ∧ v194.toInt ≤ 1 := hIF.at hf193
                have hPI := hPI.to (hrr9 24 (by decide)) (hrr9 25 (by decide)) (hrr9 27 (by decide)) (hrr9 28 (by decide)) rfl rfl
                have hLo := And.intro (hLo.1.to (hrr9 24 (by decide))) (hLo.2.to (hrr9 25 (by decide)))
                have hop := (congrFun (hrr9 24 (by decide)) _).trans hop
                refine mz_iast (x := v176) hx hb hK hD hM hS 25 (Nat.le_of_ble_eq_true rfl) rfl (nn := 400) rfl rfl (by omega) (by omega) dX13_readPart_152 (fun H locs R hM hS hw9 hj9 => ?_)
                have hIR := hIR.put hw9 hj9 trivial
                have hw25 := hw9
                have hPI := hPI.to (hj9 24 (by decide)) rfl (hj9 27 (by decide)) (hj9 28 (by decide)) rfl rfl
                have hop := (congrFun (hj9 24 (by decide)) _).trans hop
                have hLo := And.intro (hLo.1.to (hj9 24 (by decide))) hLo.2
                have hz9 := hPI.1
                have hRR := mz_frp (K := [24, 25, 27, 28]) (Fa := Ra) hj9 hRR (by decide)
                refine lv_iconst (v := 3) hx hb dX13_readPart_153 (by decide) ?_
                have hk_3 : (3 : Int32).toInt = 3 := by decide
                exact mz_iret (v := 3) hx hb hr rfl hlocks ⟨hIF, hIG, hIR, hFF, hRR, hGG, (by rw [hf185, hf187]; omega), (by rw [hf187]; omega), (by rw [hf185, hf187, hf189]; omega), (by rw [hf185, hf187, hf189, hf191]; omega), (by rw [hf185]; omega), (by rw [hf185, hf149, hg_7]; omega), (by rw [hf149]; omega), (by rw [hf185, hf193]; omega), (by omega), (by omega), (by rw [hf193]; exact fun h9 => ⟨PT.mk (PI.argset (n := v154.toInt.toNat) (y := v176) hPI (by rw [hop]; omega) (by omega) rfl) (by decide) (fun h8 => absurd h8 (by decide)) (fun h8 => absurd h8 (by decide)) rfl hw25 rfl rfl (by rw [hf149]) (by rw [hg_7]), hLo.1, (hLo.2.upd (n := v154.toInt.toNat) (by omega)).to hw25⟩)⟩ hM hS dX13_readPart_154
        · have hc126 : v120.toInt = (-1) := (fi_eq rfl (show ((-1) : Int32).toInt = (-1) by decide)).mp c9
          refine lv_iload_n hx hb dX13_readPart_67 rfl (lv_at hl 0 rfl) ?_
          refine lv_if_eq (tgt := 75) hx hb dX13_readPart_68 (by decide) (fun _ => ?_) (fun c9 => absurd (by decide) c9)
          refine lv_iconst (v := 0) hx hb dX13_readPart_75 (by decide) ?_
          refine lv_iload_n hx hb dX13_readPart_76 rfl (lv_at hl 1 rfl) ?_
          refine lv_iconst (v := (-1)) hx hb dX13_readPart_77 (by decide) ?_
          refine lv_icmp_ne (tgt := 85) hx hb dX13_readPart_78 (by decide) (fun c9 => absurd ((fi_eq rfl (show ((-1) : Int32).toInt = (-1) by decide)).mpr (show v120.toInt = (-1) by omega)) c9) (fun _ => ?_)
          refine lv_iconst (v := 0) hx hb dX13_readPart_81 (by decide) ?_
          refine lv_goto (tgt := 86) hx hb dX13_readPart_82 (by decide) ?_
          refine lv_iload_n hx hb dX13_readPart_86 rfl (lv_at hl 0 rfl) ?_
          refine lv_if_eq (tgt := 98) hx hb dX13_readPart_87 (by decide) (fun _ => ?_) (fun c9 => absurd (by decide) c9)
          refine lv_iconst (v := 0) hx hb dX13_readPart_98 (by decide) ?_
          have hk_0 : (0 : Int32).toInt = 0 := by decide
          have hk_0 : (0 : Int32).toInt = 0 := by decide
          have hk_0 : (0 : Int32).toInt = 0 := by decide
          refine mz_Vv (As := [.int 0, .int 0, .int 0]) (rest := []) ⟨hx, hb, hml, hown, hts⟩ hK hM hS (k_X13_leaf l D cy ld ad am hD _ _ _ _ 0 0 0 gf gt gs gp gw gb gc gd zs hIF hIG hIR hg_0 hg_1 hg_2 hg_3 hg_4 hg_5 hg_6 hg_7 (by omega) (by omega) (by omega) (by omega) (by omega) (by omega) (by omega) (by omega) (by omega) (by omega) (by omega) (by omega) hPI) ⟨callB_of 3 hts (wl_in mw_754) rfl rfl rfl (htl _ mw_5) (htl _ mw_751) hd_yX13_leaf ⟨(Nat.le_of_ble_eq_true rfl), (Nat.le_of_ble_eq_true rfl)⟩, htl _ mw_752, htl _ mw_753⟩ rfl hl.1 rfl (Nat.le_of_ble_eq_true rfl) dX13_readPart_99 ⟨(Nat.le_of_ble_eq_true rfl), (Nat.le_of_ble_eq_true rfl)⟩ (fun H locs F G R S hpo hM hS => ?_)
          obtain ⟨hIF, hIG, hIR, hfr9, hrr9, hgr9, hpo196, hpo197, hpo198, hpo199, hpo200, hpo201, hpo202, hpo203, hx204⟩ := hpo
          have hFF := mz_fr (K := [14, 15, 16, 18, 19, 23, 26, 29, 30]) (Fa := Fa) hfr9 (fun _ _ => rfl) (by decide)
          have hRR := mz_fr (K := [24, 25, 27, 28]) (Fa := Ra) hrr9 (fun _ _ => rfl) (by decide)
          have hGG := mz_fr (K := [17]) (Fa := Ga) hgr9 (fun _ _ => rfl) (by decide)
          have hg_3 := (hfr9 13 (by decide)).trans hg_3
          have hg_7 := (hfr9 29 (by decide)).trans hg_7
          have hf12 := (hfr9 20 (by decide)).trans hf12
          obtain ⟨v207, hf206⟩ : ∃ z : Int32, F 14 = z := ⟨_, rfl⟩
          have hq_v207 := tk_rng v207
          rw [hf206] at hpo196 hpo198 hpo199 hpo200 hpo201 hpo203
          have hr_v207 : 0 ≤ v207.toInt ∧ v207.toInt ≤ 400 := hIF.at hf206
          obtain ⟨v209, hf208⟩ : ∃ z : Int32, F 15 = z := ⟨_, rfl⟩
          have hq_v209 := tk_rng v209
          rw [hf208] at hpo196 hpo197 hpo198 hpo199
          have hr_v209 : 0 ≤ v209.toInt ∧ v209.toInt ≤ 400 := hIF.at hf208
          obtain ⟨v211, hf210⟩ : ∃ z : Int32, F 16 = z := ⟨_, rfl⟩
          have hq_v211 := tk_rng v211
          rw [hf210] at hpo198 hpo199
          have hr_v211 : 0 ≤ v211.toInt ∧ v211.toInt ≤ 3 := hIF.at hf210
          obtain ⟨w213, hf212⟩ : ∃ z : Int64, G 17 = z := ⟨_, rfl⟩
          have hq_w213 := tk_rngL w213
          rw [hf212] at hpo199
          obtain ⟨v215, hf214⟩ : ∃ z : Int32, F 19 = z := ⟨_, rfl⟩
          have hq_v215 := tk_rng v215
          rw [hf214] at hpo203
          have hr_v215 : 0 ≤ v215.toInt ∧ v215.toInt ≤ 1 := hIF.at hf214
          obtain ⟨v217, hf216⟩ : ∃ z : Int32, F 23 = z := ⟨_, rfl⟩
          have hq_v217 := tk_rng v217
          rw [hf216] at hpo201 hpo202 hpo203
          have hr_v217 : 0 ≤ v217.toInt ∧ v217.toInt ≤ 400 := hIF.at hf216
          refine lv_aload_n hx hb dX13_readPart_102 rfl (lv_at hl 2 rfl) ?_
          refine mz_getI hx hb htl hown hK hM 20 (Nat.le_of_ble_eq_true rfl) rfl (htl _ mw_675) (fun _ h9 => h9) dX13_readPart_103 (fun v9 e9 => ?_)
          refine fx_ti (v := v13) (e9.symm.trans hf12) ?_
          refine lv_if_eq (tgt := 153) hx hb dX13_readPart_106 (by decide) (fun c9 => absurd (show v13.toInt = 0 from (fi_eq rfl (show (0 : Int32).toInt = 0 by decide)).mp c9) (by omega)) (fun _ => ?_)
          refine lv_iload_n hx hb dX13_readPart_109 rfl (lv_at hl 1 rfl) ?_
          refine lv_bipush (v := 6) hx hb dX13_readPart_110 (by decide) ?_
          refine lv_icmp_lt (tgt := 153) hx hb dX13_readPart_112 (by decide) (fun _ => ?_) (fun c9 => absurd ((fi_lt rfl (show (6 : Int32).toInt = 6 by decide)).mpr (show v120.toInt < 6 by omega)) c9)
          refine lv_iconst (v := 3) hx hb dX13_readPart_153 (by decide) ?_
          have hk_3 : (3 : Int32).toInt = 3 := by decide
          exact mz_iret (v := 3) hx hb hr rfl hlocks ⟨hIF, hIG, hIR, hFF, hRR, hGG, (by rw [hf206, hf208]; omega), (by rw [hf208]; omega), (by rw [hf206, hf208, hf210]; omega), (by rw [hf206, hf208, hf210, hf212]; omega), (by rw [hf206]; omega), (by rw [hf206, hf216, hg_7]; omega), (by rw [hf216]; omega), (by rw [hf206, hf214]; omega), (by omega), (by omega), (fun h9 => ⟨PT.mk (hx204 h9).1 (by decide) (fun h8 => absurd h8 (by decide)) (fun h8 => absurd h8 (by decide)) rfl rfl rfl rfl rfl rfl, (hx204 h9).2.1, (hx204 h9).2.2.1⟩)⟩ hM hS dX13_readPart_154
      · have hc125 : gs.toInt = 2 := (fi_eq rfl (show (2 : Int32).toInt = 2 by decide)).mp c9
        have hwk_218 : 0 ≤ (-1) * gf.toInt + gt.toInt + (-1) := by omega
        refine lv_aload_n hx hb dX13_readPart_44 rfl (lv_at hl 1 rfl) ?_
        refine mz_getJ hx hb htl hown hK hM 17 (Nat.le_of_ble_eq_true rfl) rfl (htl _ mw_687) (fun _ h9 => h9) dX13_readPart_45 (fun v9 e9 => ?_)
        refine fx_tl (v := gw) (e9.symm.trans hg_4) ?_
        refine lv_ldc2 hx hb hown (htl _ mw_741) dX13_readPart_48 ?_
        refine W.lcmp hx hb dX13_readPart_51 ?_
        refine lv_if_gt (tgt := 59) hx hb dX13_readPart_52 (by decide) (fun c9 => ?_) (fun c9 => ?_)
        · have hc219 : 1000 < gw.toInt := ((lg_cmp_gt _ _).trans (fl_lt (show (1000 : Int64).toInt = 1000 by decide) rfl)).mp c9
          refine lv_iconst (v := 0) hx hb dX13_readPart_59 (by decide) ?_
          refine lv_istore_n (lv' := [(2, .int 0), (1, .int v120), (0, .ref am)]) hx hb dX13_readPart_60 rfl hl (by decide) rfl (fun ls hl => ?_)
          refine lv_aload_n hx hb dX13_readPart_61 rfl (lv_at hl 2 rfl) ?_
          refine lv_iload_n hx hb dX13_readPart_62 rfl (lv_at hl 1 rfl) ?_
          refine lv_iconst (v := (-1)) hx hb dX13_readPart_63 (by decide) ?_
          refine lv_icmp_ne (tgt := 71) hx hb dX13_readPart_64 (by decide) (fun c9 => ?_) (fun c9 => ?_)
          · have hc220 : ¬ (v120.toInt = (-1)) := fun h9 => c9 ((fi_eq rfl (show ((-1) : Int32).toInt = (-1) by decide)).mpr h9)
            have hwk_221 : gs.toInt + (-1) = 0 ∧ 1 ≤ v120.toInt := by omega
            have hwk_222 : 0 ≤ (-1) * gf.toInt + gt.toInt + (-2) := by omega
            exfalso
            omega
          · have hc220 : v120.toInt = (-1) := (fi_eq rfl (show ((-1) : Int32).toInt = (-1) by decide)).mp c9
            refine lv_iload_n hx hb dX13_readPart_67 rfl (lv_at hl 0 rfl) ?_
            refine lv_if_eq (tgt := 75) hx hb dX13_readPart_68 (by decide) (fun _ => ?_) (fun c9 => absurd (by decide) c9)
            refine lv_iconst (v := 0) hx hb dX13_readPart_75 (by decide) ?_
            refine lv_iload_n hx hb dX13_readPart_76 rfl (lv_at hl 1 rfl) ?_
            refine lv_iconst (v := (-1)) hx hb dX13_readPart_77 (by decide) ?_
            refine lv_icmp_ne (tgt := 85) hx hb dX13_readPart_78 (by decide) (fun c9 => absurd ((fi_eq rfl (show ((-1) : Int32).toInt = (-1) by decide)).mpr (show v120.toInt = (-1) by omega)) c9) (fun _ => ?_)
            refine lv_iconst (v := 0) hx hb dX13_readPart_81 (by decide) ?_
            refine lv_goto (tgt := 86) hx hb dX13_readPart_82 (by decide) ?_
            refine lv_iload_n hx hb dX13_readPart_86 rfl (lv_at hl 0 rfl) ?_
            refine lv_if_eq (tgt := 98) hx hb dX13_readPart_87 (by decide) (fun _ => ?_) (fun c9 => absurd (by decide) c9)
            refine lv_iconst (v := 0) hx hb dX13_readPart_98 (by decide) ?_
            have hk_0 : (0 : Int32).toInt = 0 := by decide
            have hk_0 : (0 : Int32).toInt = 0 := by decide
            have hk_0 : (0 : Int32).toInt = 0 := by decide
            refine mz_Vv (As := [.int 0, .int 0, .int 0]) (rest := []) ⟨hx, hb, hml, hown, hts⟩ hK hM hS (k_X13_leaf l D cy ld ad am hD _ _ _ _ 0 0 0 gf gt gs gp gw gb gc gd zs hIF hIG hIR hg_0 hg_1 hg_2 hg_3 hg_4 hg_5 hg_6 hg_7 (by omega) (by omega) (by omega) (by omega) (by omega) (by omega) (by omega) (by omega) (by omega) (by omega) (by omega) (by omega) hPI) ⟨callB_of 3 hts (wl_in mw_754) rfl rfl rfl (htl _ mw_5) (htl _ mw_751) hd_yX13_leaf ⟨(Nat.le_of_ble_eq_true rfl), (Nat.le_of_ble_eq_true rfl)⟩, htl _ mw_752, htl _ mw_753⟩ rfl hl.1 rfl (Nat.le_of_ble_eq_true rfl) dX13_readPart_99 ⟨(Nat.le_of_ble_eq_true rfl), (Nat.le_of_ble_eq_true rfl)⟩ (fun H locs F G R S hpo hM hS => ?_)
            obtain ⟨hIF, hIG, hIR, hfr9, hrr9, hgr9, hpo223, hpo224, hpo225, hpo226, hpo227, hpo228, hpo229, hpo230, hx231⟩ := hpo
            have hFF := mz_fr (K := [14, 15, 16, 18, 19, 23, 26, 29, 30]) (Fa := Fa) hfr9 (fun _ _ => rfl) (by decide)
            have hRR := mz_fr (K := [24, 25, 27, 28]) (Fa := Ra) hrr9 (fun _ _ => rfl) (by decide)
            have hGG := mz_fr (K := [17]) (Fa := Ga) hgr9 (fun _ _ => rfl) (by decide)
            have hg_3 := (hfr9 13 (by decide)).trans hg_3
            have hg_7 := (hfr9 29 (by decide)).trans hg_7
            have hf12 := (hfr9 20 (by decide)).trans hf12
            obtain ⟨v234, hf233⟩ : ∃ z : Int32, F 14 = z := ⟨_, rfl⟩
            have hq_v234 := tk_rng v234
            rw [hf233] at hpo223 hpo225 hpo226 hpo227 hpo228 hpo230
            have hr_v234 : 0 ≤ v234.toInt ∧ v234.toInt ≤ 400 := hIF.at hf233
            obtain ⟨v236, hf235⟩ : ∃ z : Int32, F 15 = z := ⟨_, rfl⟩
            have hq_v236 := tk_rng v236
            rw [hf235] at hpo223 hpo224 hpo225 hpo226
            have hr_v236 : 0 ≤ v236.toInt ∧ v236.toInt ≤ 400 := hIF.at hf235
            obtain ⟨v238, hf237⟩ : ∃ z : Int32, F 16 = z := ⟨_, rfl⟩
            have hq_v238 := tk_rng v238
            rw [hf237] at hpo225 hpo226
            have hr_v238 : 0 ≤ v238.toInt ∧ v238.toInt ≤ 3 := hIF.at hf237
            obtain ⟨w240, hf239⟩ : ∃ z : Int64, G 17 = z := ⟨_, rfl⟩
            have hq_w240 := tk_rngL w240
            rw [hf239] at hpo226
            obtain ⟨v242, hf241⟩ : ∃ z : Int32, F 19 = z := ⟨_, rfl⟩
            have hq_v242 := tk_rng v242
            rw [hf241] at hpo230
            have hr_v242 : 0 ≤ v242.toInt ∧ v242.toInt ≤ 1 := hIF.at hf241
            obtain ⟨v244, hf243⟩ : ∃ z : Int32, F 23 = z := ⟨_, rfl⟩
            have hq_v244 := tk_rng v244
            rw [hf243] at hpo228 hpo229 hpo230
            have hr_v244 : 0 ≤ v244.toInt ∧ v244.toInt ≤ 400 := hIF.at hf243
            refine lv_aload_n hx hb dX13_readPart_102 rfl (lv_at hl 2 rfl) ?_
            refine mz_getI hx hb htl hown hK hM 20 (Nat.le_of_ble_eq_true rfl) rfl (htl _ mw_675) (fun _ h9 => h9) dX13_readPart_103 (fun v9 e9 => ?_)
            refine fx_ti (v := v13) (e9.symm.trans hf12) ?_
            refine lv_if_eq (tgt := 153) hx hb dX13_readPart_106 (by decide) (fun c9 => absurd (show v13.toInt = 0 from (fi_eq rfl (show (0 : Int32).toInt = 0 by decide)).mp c9) (by omega)) (fun _ => ?_)
            refine lv_iload_n hx hb dX13_readPart_109 rfl (lv_at hl 1 rfl) ?_
            refine lv_bipush (v := 6) hx hb dX13_readPart_110 (by decide) ?_
            refine lv_icmp_lt (tgt := 153) hx hb dX13_readPart_112 (by decide) (fun _ => ?_) (fun c9 => absurd ((fi_lt rfl (show (6 : Int32).toInt = 6 by decide)).mpr (show v120.toInt < 6 by omega)) c9)
            refine lv_iconst (v := 3) hx hb dX13_readPart_153 (by decide) ?_
            have hk_3 : (3 : Int32).toInt = 3 := by decide
            exact mz_iret (v := 3) hx hb hr rfl hlocks ⟨hIF, hIG, hIR, hFF, hRR, hGG, (by rw [hf233, hf235]; omega), (by rw [hf235]; omega), (by rw [hf233, hf235, hf237]; omega), (by rw [hf233, hf235, hf237, hf239]; omega), (by rw [hf233]; omega), (by rw [hf233, hf243, hg_7]; omega), (by rw [hf243]; omega), (by rw [hf233, hf241]; omega), (by omega), (by omega), (fun h9 => ⟨PT.mk (hx231 h9).1 (by decide) (fun h8 => absurd h8 (by decide)) (fun h8 => absurd h8 (by decide)) rfl rfl rfl rfl rfl rfl, (hx231 h9).2.1, (hx231 h9).2.2.1⟩)⟩ hM hS dX13_readPart_154
        · have hc219 : ¬ (1000 < gw.toInt) := fun h9 => c9 (((lg_cmp_gt _ _).trans (fl_lt (show (1000 : Int64).toInt = 1000 by decide) rfl)).mpr h9)
          refine lv_iconst (v := 1) hx hb dX13_readPart_55 (by decide) ?_
          refine lv_goto (tgt := 60) hx hb dX13_readPart_56 (by decide) ?_
          refine lv_istore_n (lv' := [(2, .int 1), (1, .int v120), (0, .ref am)]) hx hb dX13_readPart_60 rfl hl (by decide) rfl (fun ls hl => ?_)
          refine lv_aload_n hx hb dX13_readPart_61 rfl (lv_at hl 2 rfl) ?_
          refine lv_iload_n hx hb dX13_readPart_62 rfl (lv_at hl 1 rfl) ?_
          refine lv_iconst (v := (-1)) hx hb dX13_readPart_63 (by decide) ?_
          refine lv_icmp_ne (tgt := 71) hx hb dX13_readPart_64 (by decide) (fun c9 => ?_) (fun c9 => ?_)
          · have hc245 : ¬ (v120.toInt = (-1)) := fun h9 => c9 ((fi_eq rfl (show ((-1) : Int32).toInt = (-1) by decide)).mpr h9)
            have hwk_246 : gs.toInt + (-1) = 0 ∧ 1 ≤ v120.toInt := by omega
            exfalso
            omega
          · have hc245 : v120.toInt = (-1) := (fi_eq rfl (show ((-1) : Int32).toInt = (-1) by decide)).mp c9
            refine lv_iload_n hx hb dX13_readPart_67 rfl (lv_at hl 0 rfl) ?_
            refine lv_if_eq (tgt := 75) hx hb dX13_readPart_68 (by decide) (fun c9 => absurd c9 (by decide)) (fun _ => ?_)
            refine lv_iconst (v := 1) hx hb dX13_readPart_71 (by decide) ?_
            refine lv_goto (tgt := 76) hx hb dX13_readPart_72 (by decide) ?_
            refine lv_iload_n hx hb dX13_readPart_76 rfl (lv_at hl 1 rfl) ?_
            refine lv_iconst (v := (-1)) hx hb dX13_readPart_77 (by decide) ?_
            refine lv_icmp_ne (tgt := 85) hx hb dX13_readPart_78 (by decide) (fun c9 => absurd ((fi_eq rfl (show ((-1) : Int32).toInt = (-1) by decide)).mpr (show v120.toInt = (-1) by omega)) c9) (fun _ => ?_)
            refine lv_iconst (v := 0) hx hb dX13_readPart_81 (by decide) ?_
            refine lv_goto (tgt := 86) hx hb dX13_readPart_82 (by decide) ?_
            refine lv_iload_n hx hb dX13_readPart_86 rfl (lv_at hl 0 rfl) ?_
            refine lv_if_eq (tgt := 98) hx hb dX13_readPart_87 (by decide) (fun c9 => absurd c9 (by decide)) (fun _ => ?_)
            refine lv_aload_n hx hb dX13_readPart_90 rfl (lv_at hl 2 rfl) ?_
            refine mz_getJ hx hb htl hown hK hM 17 (Nat.le_of_ble_eq_true rfl) rfl (htl _ mw_687) (fun _ h9 => h9) dX13_readPart_91 (fun v9 e9 => ?_)
            refine fx_tl (v := gw) (e9.symm.trans hg_4) ?_
            obtain ⟨v247, e_v247⟩ : ∃ z : Int32, gw.toInt32 = z := ⟨_, rfl⟩
            refine lv_l2i (v := v247) hx hb dX13_readPart_94 e_v247 ?_
            have hq_v247 := tk_rng v247
            have hl_v247 : -2147483648 ≤ gw.toInt → gw.toInt ≤ 2147483647 → v247.toInt = gw.toInt := fun h1 h2 => e_v247 ▸ tk_l2i h1 h2
            refine lv_goto (tgt := 99) hx hb dX13_readPart_95 (by decide) ?_
            have hk_1 : (1 : Int32).toInt = 1 := by decide
            have hk_0 : (0 : Int32).toInt = 0 := by decide
            refine mz_Vv (As := [.int 1, .int 0, .int v247]) (rest := []) ⟨hx, hb, hml, hown, hts⟩ hK hM hS (k_X13_leaf l D cy ld ad am hD _ _ _ _ 1 0 v247 gf gt gs gp gw gb gc gd zs hIF hIG hIR hg_0 hg_1 hg_2 hg_3 hg_4 hg_5 hg_6 hg_7 (by omega) (by omega) (by omega) (by omega) (by omega) (by omega) (by omega) (by omega) (by omega) (by omega) (by omega) (by omega) hPI) ⟨callB_of 3 hts (wl_in mw_754) rfl rfl rfl (htl _ mw_5) (htl _ mw_751) hd_yX13_leaf ⟨(Nat.le_of_ble_eq_true rfl), (Nat.le_of_ble_eq_true rfl)⟩, htl _ mw_752, htl _ mw_753⟩ rfl hl.1 rfl (Nat.le_of_ble_eq_true rfl) dX13_readPart_99 ⟨(Nat.le_of_ble_eq_true rfl), (Nat.le_of_ble_eq_true rfl)⟩ (fun H locs F G R S hpo hM hS => ?_)
            obtain ⟨hIF, hIG, hIR, hfr9, hrr9, hgr9, hpo248, hpo249, hpo250, hpo251, hpo252, hpo253, hpo254, hpo255, hx256⟩ := hpo
            have hFF := mz_fr (K := [14, 15, 16, 18, 19, 23, 26, 29, 30]) (Fa := Fa) hfr9 (fun _ _ => rfl) (by decide)
            have hRR := mz_fr (K := [24, 25, 27, 28]) (Fa := Ra) hrr9 (fun _ _ => rfl) (by decide)
            have hGG := mz_fr (K := [17]) (Fa := Ga) hgr9 (fun _ _ => rfl) (by decide)
            have hg_3 := (hfr9 13 (by decide)).trans hg_3
            have hg_7 := (hfr9 29 (by decide)).trans hg_7
            have hf12 := (hfr9 20 (by decide)).trans hf12
            obtain ⟨v259, hf258⟩ : ∃ z : Int32, F 14 = z := ⟨_, rfl⟩
            have hq_v259 := tk_rng v259
            rw [hf258] at hpo248 hpo250 hpo251 hpo252 hpo253 hpo255
            have hr_v259 : 0 ≤ v259.toInt ∧ v259.toInt ≤ 400 := hIF.at hf258
            obtain ⟨v261, hf260⟩ : ∃ z : Int32, F 15 = z := ⟨_, rfl⟩
            have hq_v261 := tk_rng v261
            rw [hf260] at hpo248 hpo249 hpo250 hpo251
            have hr_v261 : 0 ≤ v261.toInt ∧ v261.toInt ≤ 400 := hIF.at hf260
            obtain ⟨v263, hf262⟩ : ∃ z : Int32, F 16 = z := ⟨_, rfl⟩
            have hq_v263 := tk_rng v263
            rw [hf262] at hpo250 hpo251
            have hr_v263 : 0 ≤ v263.toInt ∧ v263.toInt ≤ 3 := hIF.at hf262
            obtain ⟨w265, hf264⟩ : ∃ z : Int64, G 17 = z := ⟨_, rfl⟩
            have hq_w265 := tk_rngL w265
            rw [hf264] at hpo251
            obtain ⟨v267, hf266⟩ : ∃ z : Int32, F 19 = z := ⟨_, rfl⟩
            have hq_v267 := tk_rng v267
            rw [hf266] at hpo255
            have hr_v267 : 0 ≤ v267.toInt ∧ v267.toInt ≤ 1 := hIF.at hf266
            obtain ⟨v269, hf268⟩ : ∃ z : Int32, F 23 = z := ⟨_, rfl⟩
            have hq_v269 := tk_rng v269
            rw [hf268] at hpo253 hpo254 hpo255
            have hr_v269 : 0 ≤ v269.toInt ∧ v269.toInt ≤ 400 := hIF.at hf268
            refine lv_aload_n hx hb dX13_readPart_102 rfl (lv_at hl 2 rfl) ?_
            refine mz_getI hx hb htl hown hK hM 20 (Nat.le_of_ble_eq_true rfl) rfl (htl _ mw_675) (fun _ h9 => h9) dX13_readPart_103 (fun v9 e9 => ?_)
            refine fx_ti (v := v13) (e9.symm.trans hf12) ?_
            refine lv_if_eq (tgt := 153) hx hb dX13_readPart_106 (by decide) (fun c9 => absurd (show v13.toInt = 0 from (fi_eq rfl (show (0 : Int32).toInt = 0 by decide)).mp c9) (by omega)) (fun _ => ?_)
            refine lv_iload_n hx hb dX13_readPart_109 rfl (lv_at hl 1 rfl) ?_
            refine lv_bipush (v := 6) hx hb dX13_readPart_110 (by decide) ?_
            refine lv_icmp_lt (tgt := 153) hx hb dX13_readPart_112 (by decide) (fun _ => ?_) (fun c9 => absurd ((fi_lt rfl (show (6 : Int32).toInt = 6 by decide)).mpr (show v120.toInt < 6 by omega)) c9)
            refine lv_iconst (v := 3) hx hb dX13_readPart_153 (by decide) ?_
            have hk_3 : (3 : Int32).toInt = 3 := by decide
            exact mz_iret (v := 3) hx hb hr rfl hlocks ⟨hIF, hIG, hIR, hFF, hRR, hGG, (by rw [hf258, hf260]; omega), (by rw [hf260]; omega), (by rw [hf258, hf260, hf262]; omega), (by rw [hf258, hf260, hf262, hf264]; omega), (by rw [hf258]; omega), (by rw [hf258, hf268, hg_7]; omega), (by rw [hf268]; omega), (by rw [hf258, hf266]; omega), (by omega), (by omega), (fun h9 => ⟨PT.mk (hx256 h9).1 (by decide) (fun h8 => absurd h8 (by decide)) (fun h8 => absurd h8 (by decide)) rfl rfl rfl rfl rfl rfl, (hx256 h9).2.1, (hx256 h9).2.2.1⟩)⟩ hM hS dX13_readPart_154
  · have hc11 : ¬ (v1.toInt = 0) := fun h9 => c9 ((fi_eq rfl (show (0 : Int32).toInt = 0 by decide)).mpr h9)
    have hwk_270 : gs.toInt + (-3) = 0 := by omega
    have hwk_271 : 0 ≤ (-1) * gf.toInt + gt.toInt + (-1) := by omega
    refine lv_aload_n hx hb dX13_readPart_9 rfl (lv_at hl 0 rfl) ?_
    refine lv_bipush (v := 32) hx hb dX13_readPart_10 (by decide) ?_
    have hk_32 : (32 : Int32).toInt = 32 := by decide
    refine mz_Vv (As := [.int 32]) (rest := []) ⟨hx, hb, hml, hown, hts⟩ hK hM hS (k_X13_openBracket_32 l D cy ld ad am hD _ _ _ _ gf gt gs gp gw gb gc gd zs hIF hIG hIR hg_0 hg_1 hg_2 hg_3 hg_4 hg_5 hg_6 hg_7 (by omega) (by omega) (by omega) (by omega) (by omega) (by omega) (by omega) hPI) ⟨callB_of 1 hts (wl_in mw_736) rfl rfl rfl (htl _ mw_5) (htl _ mw_733) hd_yX13_openBracket ⟨(Nat.le_of_ble_eq_true rfl), (Nat.le_of_ble_eq_true rfl)⟩, htl _ mw_734, htl _ mw_735⟩ rfl hl.1 rfl (Nat.le_of_ble_eq_true rfl) dX13_readPart_12 ⟨(Nat.le_of_ble_eq_true rfl), (Nat.le_of_ble_eq_true rfl)⟩ (fun H locs F G R S hpo hM hS => ?_)
    obtain ⟨hIF, hIG, hIR, hfr9, hrr9, hgr9, hpo272, hpo273, hpo274, hpo275, hpo276, hpo277, hpo278, hpo279, hx280⟩ := hpo
    have hFF := mz_fr (K := [14, 15, 16, 18, 19, 23, 26, 29, 30]) (Fa := Fa) hfr9 (fun _ _ => rfl) (by decide)
    have hRR := mz_fr (K := [24, 25, 27, 28]) (Fa := Ra) hrr9 (fun _ _ => rfl) (by decide)
    have hGG := mz_fr (K := [17]) (Fa := Ga) hgr9 (fun _ _ => rfl) (by decide)
    have hg_3 := (hfr9 13 (by decide)).trans hg_3
    have hg_6 := (hfr9 23 (by decide)).trans hg_6
    obtain ⟨v283, hf282⟩ : ∃ z : Int32, F 14 = z := ⟨_, rfl⟩
    have hq_v283 := tk_rng v283
    rw [hf282] at hpo272 hpo274 hpo275 hpo276 hpo277 hpo279
    have hr_v283 : 0 ≤ v283.toInt ∧ v283.toInt ≤ 400 := hIF.at hf282
    obtain ⟨v285, hf284⟩ : ∃ z : Int32, F 15 = z := ⟨_, rfl⟩
    have hq_v285 := tk_rng v285
    rw [hf284] at hpo272 hpo273 hpo274 hpo275
    have hr_v285 : 0 ≤ v285.toInt ∧ v285.toInt ≤ 400 := hIF.at hf284
    obtain ⟨v287, hf286⟩ : ∃ z : Int32, F 16 = z := ⟨_, rfl⟩
    have hq_v287 := tk_rng v287
    rw [hf286] at hpo274 hpo275
    have hr_v287 : 0 ≤ v287.toInt ∧ v287.toInt ≤ 3 := hIF.at hf286
    obtain ⟨w289, hf288⟩ : ∃ z : Int64, G 17 = z := ⟨_, rfl⟩
    have hq_w289 := tk_rngL w289
    rw [hf288] at hpo275
    obtain ⟨v291, hf290⟩ : ∃ z : Int32, F 19 = z := ⟨_, rfl⟩
    have hq_v291 := tk_rng v291
    rw [hf290] at hpo279
    have hr_v291 : 0 ≤ v291.toInt ∧ v291.toInt ≤ 1 := hIF.at hf290
    rw [hg_6] at hpo277 hpo278
    have hr_gc : 0 ≤ gc.toInt ∧ gc.toInt ≤ 400 := hIF.at hg_6
    obtain ⟨v293, hf292⟩ : ∃ z : Int32, F 29 = z := ⟨_, rfl⟩
    have hq_v293 := tk_rng v293
    rw [hf292] at hpo277
    have hr_v293 : 0 ≤ v293.toInt ∧ v293.toInt ≤ 400 := hIF.at hf292
    refine lv_iconst (v := 1) hx hb dX13_readPart_15 (by decide) ?_
    have hk_1 : (1 : Int32).toInt = 1 := by decide
    exact mz_iret (v := 1) hx hb hr rfl hlocks ⟨hIF, hIG, hIR, hFF, hRR, hGG, (by rw [hf282, hf284]; omega), (by rw [hf284]; omega), (by rw [hf282, hf284, hf286]; omega), (by rw [hf282, hf284, hf286, hf288]; omega), (by rw [hf282]; omega), (by rw [hf282, hg_6, hf292]; omega), (by rw [hg_6]; omega), (by rw [hf282, hf290]; omega), (by omega), (by omega), (fun h9 => hx280 h9)⟩ hM hS dX13_readPart_16
