theorem hd_yX13_isSign : yX13_isSign.cls ≠ "java/lang/invoke/MethodHandle" ∧ yX13_isSign.cls ≠ "java/lang/invoke/VarHandle" ∧ (parseMethodDescriptor yX13_isSign.desc).map (fun d => d.parameters.length) = some 1 := by decide +kernel
theorem hd_yX13_partAt : yX13_partAt.cls ≠ "java/lang/invoke/MethodHandle" ∧ yX13_partAt.cls ≠ "java/lang/invoke/VarHandle" ∧ (parseMethodDescriptor yX13_partAt.desc).map (fun d => d.parameters.length) = some 0 := by decide +kernel
theorem hd_yX13_leaf : yX13_leaf.cls ≠ "java/lang/invoke/MethodHandle" ∧ yX13_leaf.cls ≠ "java/lang/invoke/VarHandle" ∧ (parseMethodDescriptor yX13_leaf.desc).map (fun d => d.parameters.length) = some 3 := by decide +kernel
theorem hd_yX13_orderPartAt : yX13_orderPartAt.cls ≠ "java/lang/invoke/MethodHandle" ∧ yX13_orderPartAt.cls ≠ "java/lang/invoke/VarHandle" ∧ (parseMethodDescriptor yX13_orderPartAt.desc).map (fun d => d.parameters.length) = some 0 := by decide +kernel
theorem hd_yX13_number : yX13_number.cls ≠ "java/lang/invoke/MethodHandle" ∧ yX13_number.cls ≠ "java/lang/invoke/VarHandle" ∧ (parseMethodDescriptor yX13_number.desc).map (fun d => d.parameters.length) = some 2 := by decide +kernel
theorem hd_yX13_openBracket : yX13_openBracket.cls ≠ "java/lang/invoke/MethodHandle" ∧ yX13_openBracket.cls ≠ "java/lang/invoke/VarHandle" ∧ (parseMethodDescriptor yX13_openBracket.desc).map (fun d => d.parameters.length) = some 1 := by decide +kernel
theorem dX13_readPart_0 : decode cX13_readPart 0 = .ok (.aload_n 0, 1) := by decide +kernel
theorem dX13_readPart_1 : decode cX13_readPart 1 = .ok (.bipush 91, 2) := by decide +kernel
theorem dX13_readPart_3 : decode cX13_readPart 3 = .ok (.invokevirtual 309, 3) := by decide +kernel
theorem dX13_readPart_6 : decode cX13_readPart 6 = .ok (.ifCond .eq 11, 3) := by decide +kernel
theorem dX13_readPart_17 : decode cX13_readPart 17 = .ok (.aload_n 0, 1) := by decide +kernel
theorem dX13_readPart_18 : decode cX13_readPart 18 = .ok (.getfield 315, 3) := by decide +kernel
theorem dX13_readPart_21 : decode cX13_readPart 21 = .ok (.ifCond .eq 10, 3) := by decide +kernel
theorem dX13_readPart_31 : decode cX13_readPart 31 = .ok (.aload_n 0, 1) := by decide +kernel
theorem dX13_readPart_32 : decode cX13_readPart 32 = .ok (.invokevirtual 322, 3) := by decide +kernel
theorem dX13_readPart_35 : decode cX13_readPart 35 = .ok (.istore_n 1, 1) := by decide +kernel
theorem dX13_readPart_36 : decode cX13_readPart 36 = .ok (.aload_n 0, 1) := by decide +kernel
theorem dX13_readPart_37 : decode cX13_readPart 37 = .ok (.getfield 256, 3) := by decide +kernel
theorem dX13_readPart_40 : decode cX13_readPart 40 = .ok (.iconst 2, 1) := by decide +kernel
theorem dX13_readPart_41 : decode cX13_readPart 41 = .ok (.if_icmp .ne 18, 3) := by decide +kernel
theorem dX13_readPart_59 : decode cX13_readPart 59 = .ok (.iconst 0, 1) := by decide +kernel
theorem dX13_readPart_60 : decode cX13_readPart 60 = .ok (.istore_n 2, 1) := by decide +kernel
theorem dX13_readPart_61 : decode cX13_readPart 61 = .ok (.aload_n 0, 1) := by decide +kernel
theorem dX13_readPart_62 : decode cX13_readPart 62 = .ok (.iload_n 1, 1) := by decide +kernel
theorem dX13_readPart_63 : decode cX13_readPart 63 = .ok (.iconst (-1), 1) := by decide +kernel
theorem dX13_readPart_64 : decode cX13_readPart 64 = .ok (.if_icmp .ne 7, 3) := by decide +kernel
theorem dX13_readPart_71 : decode cX13_readPart 71 = .ok (.iconst 1, 1) := by decide +kernel
theorem dX13_readPart_72 : decode cX13_readPart 72 = .ok (.goto 4, 3) := by decide +kernel
theorem dX13_readPart_76 : decode cX13_readPart 76 = .ok (.iload_n 1, 1) := by decide +kernel
theorem dX13_readPart_77 : decode cX13_readPart 77 = .ok (.iconst (-1), 1) := by decide +kernel
theorem dX13_readPart_78 : decode cX13_readPart 78 = .ok (.if_icmp .ne 7, 3) := by decide +kernel
theorem dX13_readPart_85 : decode cX13_readPart 85 = .ok (.iload_n 1, 1) := by decide +kernel
theorem dX13_readPart_86 : decode cX13_readPart 86 = .ok (.iload_n 2, 1) := by decide +kernel
theorem dX13_readPart_87 : decode cX13_readPart 87 = .ok (.ifCond .eq 11, 3) := by decide +kernel
theorem dX13_readPart_98 : decode cX13_readPart 98 = .ok (.iconst 0, 1) := by decide +kernel
theorem dX13_readPart_99 : decode cX13_readPart 99 = .ok (.invokevirtual 327, 3) := by decide +kernel
theorem dX13_readPart_102 : decode cX13_readPart 102 = .ok (.aload_n 0, 1) := by decide +kernel
theorem dX13_readPart_103 : decode cX13_readPart 103 = .ok (.getfield 315, 3) := by decide +kernel
theorem dX13_readPart_106 : decode cX13_readPart 106 = .ok (.ifCond .eq 47, 3) := by decide +kernel
theorem dX13_readPart_153 : decode cX13_readPart 153 = .ok (.iconst 3, 1) := by decide +kernel
theorem dX13_readPart_154 : decode cX13_readPart 154 = .ok (.ireturn, 1) := by decide +kernel
theorem dX13_readPart_67 : decode cX13_readPart 67 = .ok (.iload_n 2, 1) := by decide +kernel
theorem dX13_readPart_68 : decode cX13_readPart 68 = .ok (.ifCond .eq 7, 3) := by decide +kernel
theorem dX13_readPart_75 : decode cX13_readPart 75 = .ok (.iconst 0, 1) := by decide +kernel
theorem dX13_readPart_81 : decode cX13_readPart 81 = .ok (.iconst 0, 1) := by decide +kernel
theorem dX13_readPart_82 : decode cX13_readPart 82 = .ok (.goto 4, 3) := by decide +kernel
theorem dX13_readPart_44 : decode cX13_readPart 44 = .ok (.aload_n 0, 1) := by decide +kernel
theorem dX13_readPart_45 : decode cX13_readPart 45 = .ok (.getfield 246, 3) := by decide +kernel
theorem dX13_readPart_48 : decode cX13_readPart 48 = .ok (.ldc2_w 325, 3) := by decide +kernel
theorem dX13_readPart_51 : decode cX13_readPart 51 = .ok (.lcmp, 1) := by decide +kernel
theorem dX13_readPart_52 : decode cX13_readPart 52 = .ok (.ifCond .gt 7, 3) := by decide +kernel
theorem dX13_readPart_55 : decode cX13_readPart 55 = .ok (.iconst 1, 1) := by decide +kernel
theorem dX13_readPart_56 : decode cX13_readPart 56 = .ok (.goto 4, 3) := by decide +kernel
theorem dX13_readPart_90 : decode cX13_readPart 90 = .ok (.aload_n 0, 1) := by decide +kernel
theorem dX13_readPart_91 : decode cX13_readPart 91 = .ok (.getfield 246, 3) := by decide +kernel
theorem dX13_readPart_94 : decode cX13_readPart 94 = .ok (.l2i, 1) := by decide +kernel
theorem dX13_readPart_95 : decode cX13_readPart 95 = .ok (.goto 4, 3) := by decide +kernel
theorem dX13_readPart_24 : decode cX13_readPart 24 = .ok (.aload_n 0, 1) := by decide +kernel
theorem dX13_readPart_25 : decode cX13_readPart 25 = .ok (.invokevirtual 318, 3) := by decide +kernel
theorem dX13_readPart_28 : decode cX13_readPart 28 = .ok (.goto 7, 3) := by decide +kernel
theorem dX13_readPart_109 : decode cX13_readPart 109 = .ok (.iload_n 1, 1) := by decide +kernel
theorem dX13_readPart_110 : decode cX13_readPart 110 = .ok (.bipush 6, 2) := by decide +kernel
theorem dX13_readPart_112 : decode cX13_readPart 112 = .ok (.if_icmp .lt 41, 3) := by decide +kernel
theorem dX13_readPart_115 : decode cX13_readPart 115 = .ok (.aload_n 0, 1) := by decide +kernel
theorem dX13_readPart_116 : decode cX13_readPart 116 = .ok (.getfield 236, 3) := by decide +kernel
theorem dX13_readPart_119 : decode cX13_readPart 119 = .ok (.ifCond .ne 34, 3) := by decide +kernel
theorem dX13_readPart_122 : decode cX13_readPart 122 = .ok (.aload_n 0, 1) := by decide +kernel
theorem dX13_readPart_123 : decode cX13_readPart 123 = .ok (.getfield 275, 3) := by decide +kernel
theorem dX13_readPart_126 : decode cX13_readPart 126 = .ok (.iconst 1, 1) := by decide +kernel
theorem dX13_readPart_127 : decode cX13_readPart 127 = .ok (.isub, 1) := by decide +kernel
theorem dX13_readPart_128 : decode cX13_readPart 128 = .ok (.istore_n 3, 1) := by decide +kernel
theorem dX13_readPart_129 : decode cX13_readPart 129 = .ok (.aload_n 0, 1) := by decide +kernel
theorem dX13_readPart_130 : decode cX13_readPart 130 = .ok (.getfield 48, 3) := by decide +kernel
theorem dX13_readPart_133 : decode cX13_readPart 133 = .ok (.iload_n 3, 1) := by decide +kernel
theorem dX13_readPart_134 : decode cX13_readPart 134 = .ok (.aload_n 0, 1) := by decide +kernel
theorem dX13_readPart_135 : decode cX13_readPart 135 = .ok (.lconst 0, 1) := by decide +kernel
theorem dX13_readPart_136 : decode cX13_readPart 136 = .ok (.iload_n 1, 1) := by decide +kernel
theorem dX13_readPart_137 : decode cX13_readPart 137 = .ok (.bipush 6, 2) := by decide +kernel
theorem dX13_readPart_139 : decode cX13_readPart 139 = .ok (.if_icmp .ne 9, 3) := by decide +kernel
theorem dX13_readPart_148 : decode cX13_readPart 148 = .ok (.lconst 1, 1) := by decide +kernel
theorem dX13_readPart_149 : decode cX13_readPart 149 = .ok (.invokevirtual 333, 3) := by decide +kernel
theorem dX13_readPart_152 : decode cX13_readPart 152 = .ok (.iastore, 1) := by decide +kernel
theorem dX13_readPart_142 : decode cX13_readPart 142 = .ok (.ldc2_w 331, 3) := by decide +kernel
theorem dX13_readPart_145 : decode cX13_readPart 145 = .ok (.goto 4, 3) := by decide +kernel
theorem dX13_readPart_9 : decode cX13_readPart 9 = .ok (.aload_n 0, 1) := by decide +kernel
theorem dX13_readPart_10 : decode cX13_readPart 10 = .ok (.bipush 32, 2) := by decide +kernel
theorem dX13_readPart_12 : decode cX13_readPart 12 = .ok (.invokevirtual 312, 3) := by decide +kernel
theorem dX13_readPart_15 : decode cX13_readPart 15 = .ok (.iconst 1, 1) := by decide +kernel
theorem dX13_readPart_16 : decode cX13_readPart 16 = .ok (.ireturn, 1) := by decide +kernel
set_option maxHeartbeats 4000000 in
set_option maxRecDepth 100000 in
theorem k_X13_readPart (l : Launch) (D : va_G) (cy : Nat → ClassId) (ld ad : Nat → Nat) (am : Nat) (hD : mz_D ad am) (Fa : Nat → Int32) (Ga : Nat → Int64) (Ra : Nat → Nat → Int32) (Sa : Nat → Nat → Int64) (gf : Int32) (gt : Int32) (gs : Int32) (gp : Int32) (gw : Int64) (gb : Int32) (gc : Int32) (gd : Int32) (zs : Nat) (hIF : mz_IF false Fa) (hIG : mz_IG Ga) (hIR : mz_IR [] true Ra) (hg_0 : Fa 14 = gf) (hg_1 : Fa 15 = gt) (hg_2 : Fa 16 = gs) (hg_3 : Fa 13 = gp) (hg_4 : Ga 17 = gw) (hg_5 : Fa 19 = gb) (hg_6 : Fa 23 = gc) (hg_7 : Fa 29 = gd) (hp_0 : 0 ≤ (-1) * gf.toInt + gt.toInt) (hp_1 : 0 ≤ gp.toInt + (-1) * gt.toInt) (hp_2 : (1 ≤ gs.toInt → 0 ≤ (-1) * gf.toInt + gt.toInt + (-1))) (hp_3 : (27 ≤ gw.toInt → 1 ≤ gs.toInt → gs.toInt ≤ 1 → 0 ≤ (-1) * gf.toInt + gt.toInt + (-2))) (hp_4 : 0 ≤ (-1) * gc.toInt + (-1) * gd.toInt + gf.toInt) (hp_5 : gb.toInt ≤ 0) (hx_0 : PI (Ra 24) (Ra 25) (Ra 27) (Ra 28) zs gc.toInt.toNat gd.toInt.toNat 0) : Met l yX13_readPart (wl yX13_readPart cX13_readPart 4 (some .int)) ({ frames := 7, cells := 0, slots := 0, locals := 420 }) (mz_p D cy ld ad am Fa Ga Ra Sa [.ref am]) (mz_i D cy ad am (fun r F G R S => mz_IF false F ∧ mz_IG G ∧ mz_IR [] true R ∧ (∀ k : Nat, k ∉ ([14, 15, 16, 18, 19, 23, 26, 29, 30] : List Nat) → F k = Fa k) ∧ (∀ k : Nat, k ∉ ([24, 25, 27, 28] : List Nat) → R k = Ra k) ∧ (∀ k : Nat, k ∉ ([17] : List Nat) → G k = Ga k) ∧ 0 ≤ (-1) * (F 14).toInt + (F 15).toInt ∧ 0 ≤ gp.toInt + (-1) * (F 15).toInt ∧ (1 ≤ (F 16).toInt → 0 ≤ (-1) * (F 14).toInt + (F 15).toInt + (-1)) ∧ (27 ≤ (G 17).toInt → 1 ≤ (F 16).toInt → (F 16).toInt ≤ 1 → 0 ≤ (-1) * (F 14).toInt + (F 15).toInt + (-2)) ∧ 0 ≤ (-1) * gf.toInt + (F 14).toInt ∧ 0 ≤ (-1) * (F 23).toInt + (-1) * (F 29).toInt + (F 14).toInt ∧ 0 ≤ (-1) * gc.toInt + (F 23).toInt ∧ ((F 19).toInt ≤ 0 → 0 ≤ (-1) * gf.toInt + (F 14).toInt + (-1)) ∧ 1 ≤ r.toInt ∧ r.toInt ≤ 3 ∧ ((F 19).toInt = 0 → PT (R 24) (R 25) (R 27) (R 28) zs (F 23).toInt.toNat (F 29).toInt.toNat r.toInt ∧ low zs (Ra 24) (R 24) ∧ low zs (Ra 25) (R 25)))) 0 0 (mz_W ad am) := by
  refine mz_met (y := yX13_readPart) (cc := cX13_readPart) (maxL := 4) (ret := (some .int)) (av := [.ref am]) _ (by decide) (Nat.le_of_ble_eq_true rfl) ?_
  intro p e s m args below meth c hx hb hr hml hts htl hown hlocks hK H locs hM hS ls hl
  have hown : s.vm.findClass RX13 = some m.cls := hown
  have hl : lv_has ls 4 [(0, .ref am)] := hl
  have hq_gf := tk_rng gf
  have hq_gt := tk_rng gt
  have hq_gs := tk_rng gs
  have hq_gp := tk_rng gp
  have hq_gw := tk_rngL gw
  have hq_gb := tk_rng gb
  have hq_gc := tk_rng gc
  have hq_gd := tk_rng gd
  have hr_gf : 0 ≤ gf.toInt ∧ gf.toInt ≤ 400 := hIF.at hg_0
  have hr_gt : 0 ≤ gt.toInt ∧ gt.toInt ≤ 400 := hIF.at hg_1
  have hr_gs : 0 ≤ gs.toInt ∧ gs.toInt ≤ 3 := hIF.at hg_2
  have hr_gp : 0 ≤ gp.toInt ∧ gp.toInt ≤ 400 := hIF.at hg_3
  have hr_gb : 0 ≤ gb.toInt ∧ gb.toInt ≤ 1 := hIF.at hg_5
  have hr_gc : 0 ≤ gc.toInt ∧ gc.toInt ≤ 400 := hIF.at hg_6
  have hr_gd : 0 ≤ gd.toInt ∧ gd.toInt ≤ 400 := hIF.at hg_7
  have hPI := hx_0
  have hz0 := hPI.1
  have hLo := And.intro (low.refl zs (Ra 24)) (low.refl zs (Ra 25))
  refine lv_aload_n hx hb dX13_readPart_0 rfl (lv_at hl 0 rfl) ?_
  refine lv_bipush (v := 91) hx hb dX13_readPart_1 (by decide) ?_
  have hk_91 : (91 : Int32).toInt = 91 := by decide
  refine mz_Vj (As := [.int 91]) (rest := []) ⟨hx, hb, hml, hown, hts⟩ hK hM hS (k_X13_isSign l D cy ld ad am hD _ _ _ _ 91 gs hIF hIG hIR hg_2) ⟨callB_of 1 hts (wl_in mw_732) rfl rfl rfl (htl _ mw_5) (htl _ mw_729) hd_yX13_isSign ⟨(Nat.le_of_ble_eq_true rfl), (Nat.le_of_ble_eq_true rfl)⟩, htl _ mw_730, htl _ mw_731⟩ rfl hl.1 rfl (Nat.le_of_ble_eq_true rfl) dX13_readPart_3 ⟨(Nat.le_of_ble_eq_true rfl), (Nat.le_of_ble_eq_true rfl)⟩ (fun v1 H locs hpo hM hS => ?_)
  obtain ⟨hpo2, hpo3, hpo4, hpo5, hpo6⟩ := hpo
  have hq_v1 := tk_rng v1
  refine lv_if_eq (tgt := 17) hx hb dX13_readPart_6 (by decide) (fun c9 => ?_) (fun c9 => ?_)
  · have hc8 : v1.toInt = 0 := (fi_eq rfl (show (0 : Int32).toInt = 0 by decide)).mp c9
    refine lv_aload_n hx hb dX13_readPart_17 rfl (lv_at hl 0 rfl) ?_
    refine mz_getI hx hb htl hown hK hM 20 (Nat.le_of_ble_eq_true rfl) rfl (htl _ mw_675) (fun _ h9 => h9) dX13_readPart_18 (fun v10 hf9 => ?_)
    have hq_v10 := tk_rng v10
    have hr_v10 : 0 ≤ v10.toInt ∧ v10.toInt ≤ 1 := hIF.at hf9
    refine lv_if_eq (tgt := 31) hx hb dX13_readPart_21 (by decide) (fun c9 => ?_) (fun c9 => ?_)
    · have hc11 : v10.toInt = 0 := (fi_eq rfl (show (0 : Int32).toInt = 0 by decide)).mp c9
      refine lv_aload_n hx hb dX13_readPart_31 rfl (lv_at hl 0 rfl) ?_
      refine mz_Vj (As := []) (rest := []) ⟨hx, hb, hml, hown, hts⟩ hK hM hS (k_X13_partAt l D cy ld ad am hD _ _ _ _ gs hIF hIG hIR hg_2) ⟨callB_of 0 hts (wl_in mw_750) rfl rfl rfl (htl _ mw_5) (htl _ mw_747) hd_yX13_partAt ⟨(Nat.le_of_ble_eq_true rfl), (Nat.le_of_ble_eq_true rfl)⟩, htl _ mw_748, htl _ mw_749⟩ rfl hl.1 rfl (Nat.le_of_ble_eq_true rfl) dX13_readPart_32 ⟨(Nat.le_of_ble_eq_true rfl), (Nat.le_of_ble_eq_true rfl)⟩ (fun v12 H locs hpo hM hS => ?_)
      obtain ⟨hpo13, hpo14, hpo15⟩ := hpo
      have hq_v12 := tk_rng v12
      refine lv_istore_n (lv' := [(1, .int v12), (0, .ref am)]) hx hb dX13_readPart_35 rfl hl (by decide) rfl (fun ls hl => ?_)
      refine lv_aload_n hx hb dX13_readPart_36 rfl (lv_at hl 1 rfl) ?_
      refine mz_getI hx hb htl hown hK hM 16 (Nat.le_of_ble_eq_true rfl) rfl (htl _ mw_688) (fun _ h9 => h9) dX13_readPart_37 (fun v9 e9 => ?_)
      refine fx_ti (v := gs) (e9.symm.trans hg_2) ?_
      refine lv_iconst (v := 2) hx hb dX13_readPart_40 (by decide) ?_
      refine lv_icmp_ne (tgt := 59) hx hb dX13_readPart_41 (by decide) (fun c9 => ?_) (fun c9 => ?_)
      · have hc17 : ¬ (gs.toInt = 2) := fun h9 => c9 ((fi_eq rfl (show (2 : Int32).toInt = 2 by decide)).mpr h9)
        refine lv_iconst (v := 0) hx hb dX13_readPart_59 (by decide) ?_
        refine lv_istore_n (lv' := [(2, .int 0), (1, .int v12), (0, .ref am)]) hx hb dX13_readPart_60 rfl hl (by decide) rfl (fun ls hl => ?_)
        refine lv_aload_n hx hb dX13_readPart_61 rfl (lv_at hl 2 rfl) ?_
        refine lv_iload_n hx hb dX13_readPart_62 rfl (lv_at hl 1 rfl) ?_
        refine lv_iconst (v := (-1)) hx hb dX13_readPart_63 (by decide) ?_
        refine lv_icmp_ne (tgt := 71) hx hb dX13_readPart_64 (by decide) (fun c9 => ?_) (fun c9 => ?_)
        · have hc18 : ¬ (v12.toInt = (-1)) := fun h9 => c9 ((fi_eq rfl (show ((-1) : Int32).toInt = (-1) by decide)).mpr h9)
          refine lv_iconst (v := 1) hx hb dX13_readPart_71 (by decide) ?_
          refine lv_goto (tgt := 76) hx hb dX13_readPart_72 (by decide) ?_
          refine lv_iload_n hx hb dX13_readPart_76 rfl (lv_at hl 1 rfl) ?_
          refine lv_iconst (v := (-1)) hx hb dX13_readPart_77 (by decide) ?_
          refine lv_icmp_ne (tgt := 85) hx hb dX13_readPart_78 (by decide) (fun _ => ?_) (fun c9 => absurd (show v12.toInt = (-1) from (fi_eq rfl (show ((-1) : Int32).toInt = (-1) by decide)).mp c9) (by omega))
          refine lv_iload_n hx hb dX13_readPart_85 rfl (lv_at hl 1 rfl) ?_
          refine lv_iload_n hx hb dX13_readPart_86 rfl (lv_at hl 0 rfl) ?_
          refine lv_if_eq (tgt := 98) hx hb dX13_readPart_87 (by decide) (fun _ => ?_) (fun c9 => absurd (by decide) c9)
          refine lv_iconst (v := 0) hx hb dX13_readPart_98 (by decide) ?_
          have hk_1 : (1 : Int32).toInt = 1 := by decide
          have hk_0 : (0 : Int32).toInt = 0 := by decide
          refine mz_Vv (As := [.int 1, .int v12, .int 0]) (rest := []) ⟨hx, hb, hml, hown, hts⟩ hK hM hS (k_X13_leaf l D cy ld ad am hD _ _ _ _ 1 v12 0 gf gt gs gp gw gb gc gd zs hIF hIG hIR hg_0 hg_1 hg_2 hg_3 hg_4 hg_5 hg_6 hg_7 (by omega) (by omega) (by omega) (by omega) (by omega) (by omega) (by omega) (by omega) (by omega) (by omega) (by omega) (by omega) hPI) ⟨callB_of 3 hts (wl_in mw_754) rfl rfl rfl (htl _ mw_5) (htl _ mw_751) hd_yX13_leaf ⟨(Nat.le_of_ble_eq_true rfl), (Nat.le_of_ble_eq_true rfl)⟩, htl _ mw_752, htl _ mw_753⟩ rfl hl.1 rfl (Nat.le_of_ble_eq_true rfl) dX13_readPart_99 ⟨(Nat.le_of_ble_eq_true rfl), (Nat.le_of_ble_eq_true rfl)⟩ (fun H locs F G R S hpo hM hS => ?_)
          obtain ⟨hIF, hIG, hIR, hfr9, hrr9, hgr9, hpo19, hpo20, hpo21, hpo22, hpo23, hpo24, hpo25, hpo26, hx27⟩ := hpo
          have hFF := mz_fr (K := [14, 15, 16, 18, 19, 23, 26, 29, 30]) (Fa := Fa) hfr9 (fun _ _ => rfl) (by decide)
          have hRR := mz_fr (K := [24, 25, 27, 28]) (Fa := Ra) hrr9 (fun _ _ => rfl) (by decide)
          have hGG := mz_fr (K := [17]) (Fa := Ga) hgr9 (fun _ _ => rfl) (by decide)
          have hg_3 := (hfr9 13 (by decide)).trans hg_3
          have hg_7 := (hfr9 29 (by decide)).trans hg_7
          have hf9 := (hfr9 20 (by decide)).trans hf9
          obtain ⟨v30, hf29⟩ : ∃ z : Int32, F 14 = z := ⟨_, rfl⟩
          have hq_v30 := tk_rng v30
          rw [hf29] at hpo19 hpo21 hpo22 hpo23 hpo24 hpo26
          have hr_v30 : 0 ≤ v30.toInt ∧ v30.toInt ≤ 400 := hIF.at hf29
          obtain ⟨v32, hf31⟩ : ∃ z : Int32, F 15 = z := ⟨_, rfl⟩
          have hq_v32 := tk_rng v32
          rw [hf31] at hpo19 hpo20 hpo21 hpo22
          have hr_v32 : 0 ≤ v32.toInt ∧ v32.toInt ≤ 400 := hIF.at hf31
          obtain ⟨v34, hf33⟩ : ∃ z : Int32, F 16 = z := ⟨_, rfl⟩
          have hq_v34 := tk_rng v34
          rw [hf33] at hpo21 hpo22
          have hr_v34 : 0 ≤ v34.toInt ∧ v34.toInt ≤ 3 := hIF.at hf33
          obtain ⟨w36, hf35⟩ : ∃ z : Int64, G 17 = z := ⟨_, rfl⟩
          have hq_w36 := tk_rngL w36
          rw [hf35] at hpo22
          obtain ⟨v38, hf37⟩ : ∃ z : Int32, F 19 = z := ⟨_, rfl⟩
          have hq_v38 := tk_rng v38
          rw [hf37] at hpo26
          have hr_v38 : 0 ≤ v38.toInt ∧ v38.toInt ≤ 1 := hIF.at hf37
          obtain ⟨v40, hf39⟩ : ∃ z : Int32, F 23 = z := ⟨_, rfl⟩
          have hq_v40 := tk_rng v40
          rw [hf39] at hpo24 hpo25 hpo26
          have hr_v40 : 0 ≤ v40.toInt ∧ v40.toInt ≤ 400 := hIF.at hf39
          refine lv_aload_n hx hb dX13_readPart_102 rfl (lv_at hl 2 rfl) ?_
          refine mz_getI hx hb htl hown hK hM 20 (Nat.le_of_ble_eq_true rfl) rfl (htl _ mw_675) (fun _ h9 => h9) dX13_readPart_103 (fun v9 e9 => ?_)
          refine fx_ti (v := v10) (e9.symm.trans hf9) ?_
          refine lv_if_eq (tgt := 153) hx hb dX13_readPart_106 (by decide) (fun _ => ?_) (fun c9 => absurd ((fi_eq rfl (show (0 : Int32).toInt = 0 by decide)).mpr (show v10.toInt = 0 by omega)) c9)
          refine lv_iconst (v := 3) hx hb dX13_readPart_153 (by decide) ?_
          have hk_3 : (3 : Int32).toInt = 3 := by decide
          exact mz_iret (v := 3) hx hb hr rfl hlocks ⟨hIF, hIG, hIR, hFF, hRR, hGG, (by rw [hf29, hf31]; omega), (by rw [hf31]; omega), (by rw [hf29, hf31, hf33]; omega), (by rw [hf29, hf31, hf33, hf35]; omega), (by rw [hf29]; omega), (by rw [hf29, hf39, hg_7]; omega), (by rw [hf39]; omega), (by rw [hf29, hf37]; omega), (by omega), (by omega), (fun h9 => ⟨PT.mk (hx27 h9).1 (by decide) (fun h8 => absurd h8 (by decide)) (fun h8 => absurd h8 (by decide)) rfl rfl rfl rfl rfl rfl, (hx27 h9).2.1, (hx27 h9).2.2.1⟩)⟩ hM hS dX13_readPart_154
        · have hc18 : v12.toInt = (-1) := (fi_eq rfl (show ((-1) : Int32).toInt = (-1) by decide)).mp c9
          refine lv_iload_n hx hb dX13_readPart_67 rfl (lv_at hl 0 rfl) ?_
          refine lv_if_eq (tgt := 75) hx hb dX13_readPart_68 (by decide) (fun _ => ?_) (fun c9 => absurd (by decide) c9)
          refine lv_iconst (v := 0) hx hb dX13_readPart_75 (by decide) ?_
          refine lv_iload_n hx hb dX13_readPart_76 rfl (lv_at hl 1 rfl) ?_
          refine lv_iconst (v := (-1)) hx hb dX13_readPart_77 (by decide) ?_
          refine lv_icmp_ne (tgt := 85) hx hb dX13_readPart_78 (by decide) (fun c9 => absurd ((fi_eq rfl (show ((-1) : Int32).toInt = (-1) by decide)).mpr (show v12.toInt = (-1) by omega)) c9) (fun _ => ?_)
          refine lv_iconst (v := 0) hx hb dX13_readPart_81 (by decide) ?_
          refine lv_goto (tgt := 86) hx hb dX13_readPart_82 (by decide) ?_
          refine lv_iload_n hx hb dX13_readPart_86 rfl (lv_at hl 0 rfl) ?_
          refine lv_if_eq (tgt := 98) hx hb dX13_readPart_87 (by decide) (fun _ => ?_) (fun c9 => absurd (by decide) c9)
          refine lv_iconst (v := 0) hx hb dX13_readPart_98 (by decide) ?_
          have hk_0 : (0 : Int32).toInt = 0 := by decide
          have hk_0 : (0 : Int32).toInt = 0 := by decide
          have hk_0 : (0 : Int32).toInt = 0 := by decide
          refine mz_Vv (As := [.int 0, .int 0, .int 0]) (rest := []) ⟨hx, hb, hml, hown, hts⟩ hK hM hS (k_X13_leaf l D cy ld ad am hD _ _ _ _ 0 0 0 gf gt gs gp gw gb gc gd zs hIF hIG hIR hg_0 hg_1 hg_2 hg_3 hg_4 hg_5 hg_6 hg_7 (by omega) (by omega) (by omega) (by omega) (by omega) (by omega) (by omega) (by omega) (by omega) (by omega) (by omega) (by omega) hPI) ⟨callB_of 3 hts (wl_in mw_754) rfl rfl rfl (htl _ mw_5) (htl _ mw_751) hd_yX13_leaf ⟨(Nat.le_of_ble_eq_true rfl), (Nat.le_of_ble_eq_true rfl)⟩, htl _ mw_752, htl _ mw_753⟩ rfl hl.1 rfl (Nat.le_of_ble_eq_true rfl) dX13_readPart_99 ⟨(Nat.le_of_ble_eq_true rfl), (Nat.le_of_ble_eq_true rfl)⟩ (fun H locs F G R S hpo hM hS => ?_)
          obtain ⟨hIF, hIG, hIR, hfr9, hrr9, hgr9, hpo41, hpo42, hpo43, hpo44, hpo45, hpo46, hpo47, hpo48, hx49⟩ := hpo
          have hFF := mz_fr (K := [14, 15, 16, 18, 19, 23, 26, 29, 30]) (Fa := Fa) hfr9 (fun _ _ => rfl) (by decide)
          have hRR := mz_fr (K := [24, 25, 27, 28]) (Fa := Ra) hrr9 (fun _ _ => rfl) (by decide)
          have hGG := mz_fr (K := [17]) (Fa := Ga) hgr9 (fun _ _ => rfl) (by decide)
          have hg_3 := (hfr9 13 (by decide)).trans hg_3
          have hg_7 := (hfr9 29 (by decide)).trans hg_7
          have hf9 := (hfr9 20 (by decide)).trans hf9
          obtain ⟨v52, hf51⟩ : ∃ z : Int32, F 14 = z := ⟨_, rfl⟩
          have hq_v52 := tk_rng v52
          rw [hf51] at hpo41 hpo43 hpo44 hpo45 hpo46 hpo48
          have hr_v52 : 0 ≤ v52.toInt ∧ v52.toInt ≤ 400 := hIF.at hf51
          obtain ⟨v54, hf53⟩ : ∃ z : Int32, F 15 = z := ⟨_, rfl⟩
          have hq_v54 := tk_rng v54
          rw [hf53] at hpo41 hpo42 hpo43 hpo44
          have hr_v54 : 0 ≤ v54.toInt ∧ v54.toInt ≤ 400 := hIF.at hf53
          obtain ⟨v56, hf55⟩ : ∃ z : Int32, F 16 = z := ⟨_, rfl⟩
          have hq_v56 := tk_rng v56
          rw [hf55] at hpo43 hpo44
          have hr_v56 : 0 ≤ v56.toInt ∧ v56.toInt ≤ 3 := hIF.at hf55
          obtain ⟨w58, hf57⟩ : ∃ z : Int64, G 17 = z := ⟨_, rfl⟩
          have hq_w58 := tk_rngL w58
          rw [hf57] at hpo44
          obtain ⟨v60, hf59⟩ : ∃ z : Int32, F 19 = z := ⟨_, rfl⟩
          have hq_v60 := tk_rng v60
          rw [hf59] at hpo48
          have hr_v60 : 0 ≤ v60.toInt ∧ v60.toInt ≤ 1 := hIF.at hf59
          obtain ⟨v62, hf61⟩ : ∃ z : Int32, F 23 = z := ⟨_, rfl⟩
          have hq_v62 := tk_rng v62
          rw [hf61] at hpo46 hpo47 hpo48
          have hr_v62 : 0 ≤ v62.toInt ∧ v62.toInt ≤ 400 := hIF.at hf61
          refine lv_aload_n hx hb dX13_readPart_102 rfl (lv_at hl 2 rfl) ?_
          refine mz_getI hx hb htl hown hK hM 20 (Nat.le_of_ble_eq_true rfl) rfl (htl _ mw_675) (fun _ h9 => h9) dX13_readPart_103 (fun v9 e9 => ?_)
          refine fx_ti (v := v10) (e9.symm.trans hf9) ?_
          refine lv_if_eq (tgt := 153) hx hb dX13_readPart_106 (by decide) (fun _ => ?_) (fun c9 => absurd ((fi_eq rfl (show (0 : Int32).toInt = 0 by decide)).mpr (show v10.toInt = 0 by omega)) c9)
          refine lv_iconst (v := 3) hx hb dX13_readPart_153 (by decide) ?_
          have hk_3 : (3 : Int32).toInt = 3 := by decide
          exact mz_iret (v := 3) hx hb hr rfl hlocks ⟨hIF, hIG, hIR, hFF, hRR, hGG, (by rw [hf51, hf53]; omega), (by rw [hf53]; omega), (by rw [hf51, hf53, hf55]; omega), (by rw [hf51, hf53, hf55, hf57]; omega), (by rw [hf51]; omega), (by rw [hf51, hf61, hg_7]; omega), (by rw [hf61]; omega), (by rw [hf51, hf59]; omega), (by omega), (by omega), (fun h9 => ⟨PT.mk (hx49 h9).1 (by decide) (fun h8 => absurd h8 (by decide)) (fun h8 => absurd h8 (by decide)) rfl rfl rfl rfl rfl rfl, (hx49 h9).2.1, (hx49 h9).2.2.1⟩)⟩ hM hS dX13_readPart_154
      · have hc17 : gs.toInt = 2 := (fi_eq rfl (show (2 : Int32).toInt = 2 by decide)).mp c9
        refine lv_aload_n hx hb dX13_readPart_44 rfl (lv_at hl 1 rfl) ?_
        refine mz_getJ hx hb htl hown hK hM 17 (Nat.le_of_ble_eq_true rfl) rfl (htl _ mw_687) (fun _ h9 => h9) dX13_readPart_45 (fun v9 e9 => ?_)
        refine fx_tl (v := gw) (e9.symm.trans hg_4) ?_
        refine lv_ldc2 hx hb hown (htl _ mw_741) dX13_readPart_48 ?_
        refine W.lcmp hx hb dX13_readPart_51 ?_
        refine lv_if_gt (tgt := 59) hx hb dX13_readPart_52 (by decide) (fun c9 => ?_) (fun c9 => ?_)
        · have hc63 : 1000 < gw.toInt := ((lg_cmp_gt _ _).trans (fl_lt (show (1000 : Int64).toInt = 1000 by decide) rfl)).mp c9
          refine lv_iconst (v := 0) hx hb dX13_readPart_59 (by decide) ?_
          refine lv_istore_n (lv' := [(2, .int 0), (1, .int v12), (0, .ref am)]) hx hb dX13_readPart_60 rfl hl (by decide) rfl (fun ls hl => ?_)
          refine lv_aload_n hx hb dX13_readPart_61 rfl (lv_at hl 2 rfl) ?_
          refine lv_iload_n hx hb dX13_readPart_62 rfl (lv_at hl 1 rfl) ?_
          refine lv_iconst (v := (-1)) hx hb dX13_readPart_63 (by decide) ?_
          refine lv_icmp_ne (tgt := 71) hx hb dX13_readPart_64 (by decide) (fun c9 => ?_) (fun c9 => ?_)
          · have hc64 : ¬ (v12.toInt = (-1)) := fun h9 => c9 ((fi_eq rfl (show ((-1) : Int32).toInt = (-1) by decide)).mpr h9)
            exfalso
            omega
          · have hc64 : v12.toInt = (-1) := (fi_eq rfl (show ((-1) : Int32).toInt = (-1) by decide)).mp c9
            refine lv_iload_n hx hb dX13_readPart_67 rfl (lv_at hl 0 rfl) ?_
            refine lv_if_eq (tgt := 75) hx hb dX13_readPart_68 (by decide) (fun _ => ?_) (fun c9 => absurd (by decide) c9)
            refine lv_iconst (v := 0) hx hb dX13_readPart_75 (by decide) ?_
            refine lv_iload_n hx hb dX13_readPart_76 rfl (lv_at hl 1 rfl) ?_
            refine lv_iconst (v := (-1)) hx hb dX13_readPart_77 (by decide) ?_
            refine lv_icmp_ne (tgt := 85) hx hb dX13_readPart_78 (by decide) (fun c9 => absurd ((fi_eq rfl (show ((-1) : Int32).toInt = (-1) by decide)).mpr (show v12.toInt = (-1) by omega)) c9) (fun _ => ?_)
            refine lv_iconst (v := 0) hx hb dX13_readPart_81 (by decide) ?_
            refine lv_goto (tgt := 86) hx hb dX13_readPart_82 (by decide) ?_
            refine lv_iload_n hx hb dX13_readPart_86 rfl (lv_at hl 0 rfl) ?_
            refine lv_if_eq (tgt := 98) hx hb dX13_readPart_87 (by decide) (fun _ => ?_) (fun c9 => absurd (by decide) c9)
            refine lv_iconst (v := 0) hx hb dX13_readPart_98 (by decide) ?_
            have hk_0 : (0 : Int32).toInt = 0 := by decide
            have hk_0 : (0 : Int32).toInt = 0 := by decide
            have hk_0 : (0 : Int32).toInt = 0 := by decide
            refine mz_Vv (As := [.int 0, .int 0, .int 0]) (rest := []) ⟨hx, hb, hml, hown, hts⟩ hK hM hS (k_X13_leaf l D cy ld ad am hD _ _ _ _ 0 0 0 gf gt gs gp gw gb gc gd zs hIF hIG hIR hg_0 hg_1 hg_2 hg_3 hg_4 hg_5 hg_6 hg_7 (by omega) (by omega) (by omega) (by omega) (by omega) (by omega) (by omega) (by omega) (by omega) (by omega) (by omega) (by omega) hPI) ⟨callB_of 3 hts (wl_in mw_754) rfl rfl rfl (htl _ mw_5) (htl _ mw_751) hd_yX13_leaf ⟨(Nat.le_of_ble_eq_true rfl), (Nat.le_of_ble_eq_true rfl)⟩, htl _ mw_752, htl _ mw_753⟩ rfl hl.1 rfl (Nat.le_of_ble_eq_true rfl) dX13_readPart_99 ⟨(Nat.le_of_ble_eq_true rfl), (Nat.le_of_ble_eq_true rfl)⟩ (fun H locs F G R S hpo hM hS => ?_)
            obtain ⟨hIF, hIG, hIR, hfr9, hrr9, hgr9, hpo65, hpo66, hpo67, hpo68, hpo69, hpo70, hpo71, hpo72, hx73⟩ := hpo
            have hFF := mz_fr (K := [14, 15, 16, 18, 19, 23, 26, 29, 30]) (Fa := Fa) hfr9 (fun _ _ => rfl) (by decide)
            have hRR := mz_fr (K := [24, 25, 27, 28]) (Fa := Ra) hrr9 (fun _ _ => rfl) (by decide)
            have hGG := mz_fr (K := [17]) (Fa := Ga) hgr9 (fun _ _ => rfl) (by decide)
            have hg_3 := (hfr9 13 (by decide)).trans hg_3
            have hg_7 := (hfr9 29 (by decide)).trans hg_7
            have hf9 := (hfr9 20 (by decide)).trans hf9
            obtain ⟨v76, hf75⟩ : ∃ z : Int32, F 14 = z := ⟨_, rfl⟩
            have hq_v76 := tk_rng v76
            rw [hf75] at hpo65 hpo67 hpo68 hpo69 hpo70 hpo72
            have hr_v76 : 0 ≤ v76.toInt ∧ v76.toInt ≤ 400 := hIF.at hf75
            obtain ⟨v78, hf77⟩ : ∃ z : Int32, F 15 = z := ⟨_, rfl⟩
            have hq_v78 := tk_rng v78
            rw [hf77] at hpo65 hpo66 hpo67 hpo68
            have hr_v78 : 0 ≤ v78.toInt ∧ v78.toInt ≤ 400 := hIF.at hf77
            obtain ⟨v80, hf79⟩ : ∃ z : Int32, F 16 = z := ⟨_, rfl⟩
            have hq_v80 := tk_rng v80
            rw [hf79] at hpo67 hpo68
            have hr_v80 : 0 ≤ v80.toInt ∧ v80.toInt ≤ 3 := hIF.at hf79
            obtain ⟨w82, hf81⟩ : ∃ z : Int64, G 17 = z := ⟨_, rfl⟩
            have hq_w82 := tk_rngL w82
            rw [hf81] at hpo68
            obtain ⟨v84, hf83⟩ : ∃ z : Int32, F 19 = z := ⟨_, rfl⟩
            have hq_v84 := tk_rng v84
            rw [hf83] at hpo72
            have hr_v84 : 0 ≤ v84.toInt ∧ v84.toInt ≤ 1 := hIF.at hf83
            obtain ⟨v86, hf85⟩ : ∃ z : Int32, F 23 = z := ⟨_, rfl⟩
            have hq_v86 := tk_rng v86
            rw [hf85] at hpo70 hpo71 hpo72
            have hr_v86 : 0 ≤ v86.toInt ∧ v86.toInt ≤ 400 := hIF.at hf85
            refine lv_aload_n hx hb dX13_readPart_102 rfl (lv_at hl 2 rfl) ?_
            refine mz_getI hx hb htl hown hK hM 20 (Nat.le_of_ble_eq_true rfl) rfl (htl _ mw_675) (fun _ h9 => h9) dX13_readPart_103 (fun v9 e9 => ?_)
            refine fx_ti (v := v10) (e9.symm.trans hf9) ?_
            refine lv_if_eq (tgt := 153) hx hb dX13_readPart_106 (by decide) (fun _ => ?_) (fun c9 => absurd ((fi_eq rfl (show (0 : Int32).toInt = 0 by decide)).mpr (show v10.toInt = 0 by omega)) c9)
            refine lv_iconst (v := 3) hx hb dX13_readPart_153 (by decide) ?_
            have hk_3 : (3 : Int32).toInt = 3 := by decide
            exact mz_iret (v := 3) hx hb hr rfl hlocks ⟨hIF, hIG, hIR, hFF, hRR, hGG, (by rw [hf75, hf77]; omega), (by rw [hf77]; omega), (by rw [hf75, hf77, hf79]; omega), (by rw [hf75, hf77, hf79, hf81]; omega), (by rw [hf75]; omega), (by rw [hf75, hf85, hg_7]; omega), (by rw [hf85]; omega), (by rw [hf75, hf83]; omega), (by omega), (by omega), (fun h9 => ⟨PT.mk (hx73 h9).1 (by decide) (fun h8 => absurd h8 (by decide)) (fun h8 => absurd h8 (by decide)) rfl rfl rfl rfl rfl rfl, (hx73 h9).2.1, (hx73 h9).2.2.1⟩)⟩ hM hS dX13_readPart_154
        · have hc63 : ¬ (1000 < gw.toInt) := fun h9 => c9 (((lg_cmp_gt _ _).trans (fl_lt (show (1000 : Int64).toInt = 1000 by decide) rfl)).mpr h9)
          refine lv_iconst (v := 1) hx hb dX13_readPart_55 (by decide) ?_
          refine lv_goto (tgt := 60) hx hb dX13_readPart_56 (by decide) ?_
          refine lv_istore_n (lv' := [(2, .int 1), (1, .int v12), (0, .ref am)]) hx hb dX13_readPart_60 rfl hl (by decide) rfl (fun ls hl => ?_)
          refine lv_aload_n hx hb dX13_readPart_61 rfl (lv_at hl 2 rfl) ?_
          refine lv_iload_n hx hb dX13_readPart_62 rfl (lv_at hl 1 rfl) ?_
          refine lv_iconst (v := (-1)) hx hb dX13_readPart_63 (by decide) ?_
          refine lv_icmp_ne (tgt := 71) hx hb dX13_readPart_64 (by decide) (fun c9 => ?_) (fun c9 => ?_)
          · have hc87 : ¬ (v12.toInt = (-1)) := fun h9 => c9 ((fi_eq rfl (show ((-1) : Int32).toInt = (-1) by decide)).mpr h9)
            exfalso
            omega
          · have hc87 : v12.toInt = (-1) := (fi_eq rfl (show ((-1) : Int32).toInt = (-1) by decide)).mp c9
            refine lv_iload_n hx hb dX13_readPart_67 rfl (lv_at hl 0 rfl) ?_
            refine lv_if_eq (tgt := 75) hx hb dX13_readPart_68 (by decide) (fun c9 => absurd c9 (by decide)) (fun _ => ?_)
            refine lv_iconst (v := 1) hx hb dX13_readPart_71 (by decide) ?_
            refine lv_goto (tgt := 76) hx hb dX13_readPart_72 (by decide) ?_
            refine lv_iload_n hx hb dX13_readPart_76 rfl (lv_at hl 1 rfl) ?_
            refine lv_iconst (v := (-1)) hx hb dX13_readPart_77 (by decide) ?_
            refine lv_icmp_ne (tgt := 85) hx hb dX13_readPart_78 (by decide) (fun c9 => absurd ((fi_eq rfl (show ((-1) : Int32).toInt = (-1) by decide)).mpr (show v12.toInt = (-1) by omega)) c9) (fun _ => ?_)
            refine lv_iconst (v := 0) hx hb dX13_readPart_81 (by decide) ?_
            refine lv_goto (tgt := 86) hx hb dX13_readPart_82 (by decide) ?_
            refine lv_iload_n hx hb dX13_readPart_86 rfl (lv_at hl 0 rfl) ?_
            refine lv_if_eq (tgt := 98) hx hb dX13_readPart_87 (by decide) (fun c9 => absurd c9 (by decide)) (fun _ => ?_)
            refine lv_aload_n hx hb dX13_readPart_90 rfl (lv_at hl 2 rfl) ?_
            refine mz_getJ hx hb htl hown hK hM 17 (Nat.le_of_ble_eq_true rfl) rfl (htl _ mw_687) (fun _ h9 => h9) dX13_readPart_91 (fun v9 e9 => ?_)
            refine fx_tl (v := gw) (e9.symm.trans hg_4) ?_
            obtain ⟨v88, e_v88⟩ : ∃ z : Int32, gw.toInt32 = z := ⟨_, rfl⟩
            refine lv_l2i (v := v88) hx hb dX13_readPart_94 e_v88 ?_
            have hq_v88 := tk_rng v88
            have hl_v88 : -2147483648 ≤ gw.toInt → gw.toInt ≤ 2147483647 → v88.toInt = gw.toInt := fun h1 h2 => e_v88 ▸ tk_l2i h1 h2
            refine lv_goto (tgt := 99) hx hb dX13_readPart_95 (by decide) ?_
            have hk_1 : (1 : Int32).toInt = 1 := by decide
            have hk_0 : (0 : Int32).toInt = 0 := by decide
            refine mz_Vv (As := [.int 1, .int 0, .int v88]) (rest := []) ⟨hx, hb, hml, hown, hts⟩ hK hM hS (k_X13_leaf l D cy ld ad am hD _ _ _ _ 1 0 v88 gf gt gs gp gw gb gc gd zs hIF hIG hIR hg_0 hg_1 hg_2 hg_3 hg_4 hg_5 hg_6 hg_7 (by omega) (by omega) (by omega) (by omega) (by omega) (by omega) (by omega) (by omega) (by omega) (by omega) (by omega) (by omega) hPI) ⟨callB_of 3 hts (wl_in mw_754) rfl rfl rfl (htl _ mw_5) (htl _ mw_751) hd_yX13_leaf ⟨(Nat.le_of_ble_eq_true rfl), (Nat.le_of_ble_eq_true rfl)⟩, htl _ mw_752, htl _ mw_753⟩ rfl hl.1 rfl (Nat.le_of_ble_eq_true rfl) dX13_readPart_99 ⟨(Nat.le_of_ble_eq_true rfl), (Nat.le_of_ble_eq_true rfl)⟩ (fun H locs F G R S hpo hM hS => ?_)
            obtain ⟨hIF, hIG, hIR, hfr9, hrr9, hgr9, hpo89, hpo90, hpo91, hpo92, hpo93, hpo94, hpo95, hpo96, hx97⟩ := hpo
            have hFF := mz_fr (K := [14, 15, 16, 18, 19, 23, 26, 29, 30]) (Fa := Fa) hfr9 (fun _ _ => rfl) (by decide)
            have hRR := mz_fr (K := [24, 25, 27, 28]) (Fa := Ra) hrr9 (fun _ _ => rfl) (by decide)
            have hGG := mz_fr (K := [17]) (Fa := Ga) hgr9 (fun _ _ => rfl) (by decide)
            have hg_3 := (hfr9 13 (by decide)).trans hg_3
            have hg_7 := (hfr9 29 (by decide)).trans hg_7
            have hf9 := (hfr9 20 (by decide)).trans hf9
            obtain ⟨v100, hf99⟩ : ∃ z : Int32, F 14 = z := ⟨_, rfl⟩
            have hq_v100 := tk_rng v100
            rw [hf99] at hpo89 hpo91 hpo92 hpo93 hpo94 hpo96
            have hr_v100 : 0 ≤ v100.toInt ∧ v100.toInt ≤ 400 := hIF.at hf99
            obtain ⟨v102, hf101⟩ : ∃ z : Int32, F 15 = z := ⟨_, rfl⟩
            have hq_v102 := tk_rng v102
            rw [hf101] at hpo89 hpo90 hpo91 hpo92
            have hr_v102 : 0 ≤ v102.toInt ∧ v102.toInt ≤ 400 := hIF.at hf101
            obtain ⟨v104, hf103⟩ : ∃ z : Int32, F 16 = z := ⟨_, rfl⟩
            have hq_v104 := tk_rng v104
            rw [hf103] at hpo91 hpo92
            have hr_v104 : 0 ≤ v104.toInt ∧ v104.toInt ≤ 3 := hIF.at hf103
            obtain ⟨w106, hf105⟩ : ∃ z : Int64, G 17 = z := ⟨_, rfl⟩
            have hq_w106 := tk_rngL w106
            rw [hf105] at hpo92
            obtain ⟨v108, hf107⟩ : ∃ z : Int32, F 19 = z := ⟨_, rfl⟩
            have hq_v108 := tk_rng v108
            rw [hf107] at hpo96
            have hr_v108 : 0 ≤ v108.toInt ∧ v108.toInt ≤ 1 := hIF.at hf107
            obtain ⟨v110, hf109⟩ : ∃ z : Int32, F 23 = z := ⟨_, rfl⟩
            have hq_v110 := tk_rng v110
            rw [hf109] at hpo94 hpo95 hpo96
            have hr_v110 : 0 ≤ v110.toInt ∧ v110.toInt ≤ 400 := hIF.at hf109
            refine lv_aload_n hx hb dX13_readPart_102 rfl (lv_at hl 2 rfl) ?_
            refine mz_getI hx hb htl hown hK hM 20 (Nat.le_of_ble_eq_true rfl) rfl (htl _ mw_675) (fun _ h9 => h9) dX13_readPart_103 (fun v9 e9 => ?_)
            refine fx_ti (v := v10) (e9.symm.trans hf9) ?_
            refine lv_if_eq (tgt := 153) hx hb dX13_readPart_106 (by decide) (fun _ => ?_) (fun c9 => absurd ((fi_eq rfl (show (0 : Int32).toInt = 0 by decide)).mpr (show v10.toInt = 0 by omega)) c9)
            refine lv_iconst (v := 3) hx hb dX13_readPart_153 (by decide) ?_
            have hk_3 : (3 : Int32).toInt = 3 := by decide
            exact mz_iret (v := 3) hx hb hr rfl hlocks ⟨hIF, hIG, hIR, hFF, hRR, hGG, (by rw [hf99, hf101]; omega), (by rw [hf101]; omega), (by rw [hf99, hf101, hf103]; omega), (by rw [hf99, hf101, hf103, hf105]; omega), (by rw [hf99]; omega), (by rw [hf99, hf109, hg_7]; omega), (by rw [hf109]; omega), (by rw [hf99, hf107]; omega), (by omega), (by omega), (fun h9 => ⟨PT.mk (hx97 h9).1 (by decide) (fun h8 => absurd h8 (by decide)) (fun h8 => absurd h8 (by decide)) rfl rfl rfl rfl rfl rfl, (hx97 h9).2.1, (hx97 h9).2.2.1⟩)⟩ hM hS dX13_readPart_154
    · have hc11 : ¬ (v10.toInt = 0) := fun h9 => c9 ((fi_eq rfl (show (0 : Int32).toInt = 0 by decide)).mpr h9)
      refine lv_aload_n hx hb dX13_readPart_24 rfl (lv_at hl 0 rfl) ?_
      refine mz_Vj (As := []) (rest := []) ⟨hx, hb, hml, hown, hts⟩ hK hM hS (k_X13_orderPartAt l D cy ld ad am hD _ _ _ _ gs hIF hIG hIR hg_2) ⟨callB_of 0 hts (wl_in mw_746) rfl rfl rfl (htl _ mw_5) (htl _ mw_743) hd_yX13_orderPartAt ⟨(Nat.le_of_ble_eq_true rfl), (Nat.le_of_ble_eq_true rfl)⟩, htl _ mw_744, htl _ mw_745⟩ rfl hl.1 rfl (Nat.le_of_ble_eq_true rfl) dX13_readPart_25 ⟨(Nat.le_of_ble_eq_true rfl), (Nat.le_of_ble_eq_true rfl)⟩ (fun v111 H locs hpo hM hS => ?_)
      obtain ⟨hpo112, hpo113, hpo114⟩ := hpo
      have hq_v111 := tk_rng v111
      refine lv_goto (tgt := 35) hx hb dX13_readPart_28 (by decide) ?_
      refine lv_istore_n (lv' := [(1, .int v111), (0, .ref am)]) hx hb dX13_readPart_35 rfl hl (by decide) rfl (fun ls hl => ?_)
      refine lv_aload_n hx hb dX13_readPart_36 rfl (lv_at hl 1 rfl) ?_
      refine mz_getI hx hb htl hown hK hM 16 (Nat.le_of_ble_eq_true rfl) rfl (htl _ mw_688) (fun _ h9 => h9) dX13_readPart_37 (fun v9 e9 => ?_)
      refine fx_ti (v := gs) (e9.symm.trans hg_2) ?_
      refine lv_iconst (v := 2) hx hb dX13_readPart_40 (by decide) ?_
      refine lv_icmp_ne (tgt := 59) hx hb dX13_readPart_41 (by decide) (fun c9 => ?_) (fun c9 => ?_)
      · have hc116 : ¬ (gs.toInt = 2) := fun h9 => c9 ((fi_eq rfl (show (2 : Int32).toInt = 2 by decide)).mpr h9)
        refine lv_iconst (v := 0) hx hb dX13_readPart_59 (by decide) ?_
        refine lv_istore_n (lv' := [(2, .int 0), (1, .int v111), (0, .ref am)]) hx hb dX13_readPart_60 rfl hl (by decide) rfl (fun ls hl => ?_)
        refine lv_aload_n hx hb dX13_readPart_61 rfl (lv_at hl 2 rfl) ?_
        refine lv_iload_n hx hb dX13_readPart_62 rfl (lv_at hl 1 rfl) ?_
        refine lv_iconst (v := (-1)) hx hb dX13_readPart_63 (by decide) ?_
        refine lv_icmp_ne (tgt := 71) hx hb dX13_readPart_64 (by decide) (fun c9 => ?_) (fun c9 => ?_)
        · have hc117 : ¬ (v111.toInt = (-1)) := fun h9 => c9 ((fi_eq rfl (show ((-1) : Int32).toInt = (-1) by decide)).mpr h9)
          refine lv_iconst (v := 1) hx hb dX13_readPart_71 (by decide) ?_
          refine lv_goto (tgt := 76) hx hb dX13_readPart_72 (by decide) ?_
          refine lv_iload_n hx hb dX13_readPart_76 rfl (lv_at hl 1 rfl) ?_
          refine lv_iconst (v := (-1)) hx hb dX13_readPart_77 (by decide) ?_
          refine lv_icmp_ne (tgt := 85) hx hb dX13_readPart_78 (by decide) (fun _ => ?_) (fun c9 => absurd (show v111.toInt = (-1) from (fi_eq rfl (show ((-1) : Int32).toInt = (-1) by decide)).mp c9) (by omega))
          refine lv_iload_n hx hb dX13_readPart_85 rfl (lv_at hl 1 rfl) ?_
          refine lv_iload_n hx hb dX13_readPart_86 rfl (lv_at hl 0 rfl) ?_
          refine lv_if_eq (tgt := 98) hx hb dX13_readPart_87 (by decide) (fun _ => ?_) (fun c9 => absurd (by decide) c9)
          refine lv_iconst (v := 0) hx hb dX13_readPart_98 (by decide) ?_
          have hk_1 : (1 : Int32).toInt = 1 := by decide
          have hk_0 : (0 : Int32).toInt = 0 := by decide
          refine mz_Vv (As := [.int 1, .int v111, .int 0]) (rest := []) ⟨hx, hb, hml, hown, hts⟩ hK hM hS (k_X13_leaf l D cy ld ad am hD _ _ _ _ 1 v111 0 gf gt gs gp gw gb gc gd zs hIF hIG hIR hg_0 hg_1 hg_2 hg_3 hg_4 hg_5 hg_6 hg_7 (by omega) (by omega) (by omega) (by omega) (by omega) (by omega) (by omega) (by omega) (by omega) (by omega) (by omega) (by omega) hPI) ⟨callB_of 3 hts (wl_in mw_754) rfl rfl rfl (htl _ mw_5) (htl _ mw_751) hd_yX13_leaf ⟨(Nat.le_of_ble_eq_true rfl), (Nat.le_of_ble_eq_true rfl)⟩, htl _ mw_752, htl _ mw_753⟩ rfl hl.1 rfl (Nat.le_of_ble_eq_true rfl) dX13_readPart_99 ⟨(Nat.le_of_ble_eq_true rfl), (Nat.le_of_ble_eq_true rfl)⟩ (fun H locs F G R S hpo hM hS => ?_)
          obtain ⟨hIF, hIG, hIR, hfr9, hrr9, hgr9, hpo118, hpo119, hpo120, hpo121, hpo122, hpo123, hpo124, hpo125, hx126⟩ := hpo
          have hFF := mz_fr (K := [14, 15, 16, 18, 19, 23, 26, 29, 30]) (Fa := Fa) hfr9 (fun _ _ => rfl) (by decide)
          have hRR := mz_fr (K := [24, 25, 27, 28]) (Fa := Ra) hrr9 (fun _ _ => rfl) (by decide)
          have hGG := mz_fr (K := [17]) (Fa := Ga) hgr9 (fun _ _ => rfl) (by decide)
          have hg_3 := (hfr9 13 (by decide)).trans hg_3
          have hg_7 := (hfr9 29 (by decide)).trans hg_7
          have hf9 := (hfr9 20 (by decide)).trans hf9
          obtain ⟨v129, hf128⟩ : ∃ z : Int32, F 14 = z := ⟨_, rfl⟩
          have hq_v129 := tk_rng v129
          rw [hf128] at hpo118 hpo120 hpo121 hpo122 hpo123 hpo125
          have hr_v129 : 0 ≤ v129.toInt ∧ v129.toInt ≤ 400 := hIF.at hf128
          obtain ⟨v131, hf130⟩ : ∃ z : Int32, F 15 = z := ⟨_, rfl⟩
          have hq_v131 := tk_rng v131
          rw [hf130] at hpo118 hpo119 hpo120 hpo121
          have hr_v131 : 0 ≤ v131.toInt ∧ v131.toInt ≤ 400 := hIF.at hf130
          obtain ⟨v133, hf132⟩ : ∃ z : Int32, F 16 = z := ⟨_, rfl⟩
          have hq_v133 := tk_rng v133
          rw [hf132] at hpo120 hpo121
          have hr_v133 : 0 ≤ v133.toInt ∧ v133.toInt ≤ 3 := hIF.at hf132
          obtain ⟨w135, hf134⟩ : ∃ z : Int64, G 17 = z := ⟨_, rfl⟩
          have hq_w135 := tk_rngL w135
          rw [hf134] at hpo121
          obtain ⟨v137, hf136⟩ : ∃ z : Int32, F 19 = z := ⟨_, rfl⟩
          have hq_v137 := tk_rng v137
          rw [hf136] at hpo125
          have hr_v137 : 0 ≤ v137.toInt ∧ v137.toInt ≤ 1 := hIF.at hf136
          obtain ⟨v139, hf138⟩ : ∃ z : Int32, F 23 = z := ⟨_, rfl⟩
          have hq_v139 := tk_rng v139
          rw [hf138] at hpo123 hpo124 hpo125
          have hr_v139 : 0 ≤ v139.toInt ∧ v139.toInt ≤ 400 := hIF.at hf138
          refine lv_aload_n hx hb dX13_readPart_102 rfl (lv_at hl 2 rfl) ?_
          refine mz_getI hx hb htl hown hK hM 20 (Nat.le_of_ble_eq_true rfl) rfl (htl _ mw_675) (fun _ h9 => h9) dX13_readPart_103 (fun v9 e9 => ?_)
          refine fx_ti (v := v10) (e9.symm.trans hf9) ?_
          refine lv_if_eq (tgt := 153) hx hb dX13_readPart_106 (by decide) (fun c9 => absurd (show v10.toInt = 0 from (fi_eq rfl (show (0 : Int32).toInt = 0 by decide)).mp c9) (by omega)) (fun _ => ?_)
          refine lv_iload_n hx hb dX13_readPart_109 rfl (lv_at hl 1 rfl) ?_
          refine lv_bipush (v := 6) hx hb dX13_readPart_110 (by decide) ?_
          refine lv_icmp_lt (tgt := 153) hx hb dX13_readPart_112 (by decide) (fun c9 => ?_) (fun c9 => ?_)
          · have hc140 : v111.toInt < 6 := (fi_lt rfl (show (6 : Int32).toInt = 6 by decide)).mp c9
            refine lv_iconst (v := 3) hx hb dX13_readPart_153 (by decide) ?_
            have hk_3 : (3 : Int32).toInt = 3 := by decide
            exact mz_iret (v := 3) hx hb hr rfl hlocks ⟨hIF, hIG, hIR, hFF, hRR, hGG, (by rw [hf128, hf130]; omega), (by rw [hf130]; omega), (by rw [hf128, hf130, hf132]; omega), (by rw [hf128, hf130, hf132, hf134]; omega), (by rw [hf128]; omega), (by rw [hf128, hf138, hg_7]; omega), (by rw [hf138]; omega), (by rw [hf128, hf136]; omega), (by omega), (by omega), (fun h9 => ⟨PT.mk (hx126 h9).1 (by decide) (fun h8 => absurd h8 (by decide)) (fun h8 => absurd h8 (by decide)) rfl rfl rfl rfl rfl rfl, (hx126 h9).2.1, (hx126 h9).2.2.1⟩)⟩ hM hS dX13_readPart_154
          · have hc140 : ¬ (v111.toInt < 6) := fun h9 => c9 ((fi_lt rfl (show (6 : Int32).toInt = 6 by decide)).mpr h9)
            refine lv_aload_n hx hb dX13_readPart_115 rfl (lv_at hl 2 rfl) ?_
            refine mz_getI hx hb htl hown hK hM 19 (Nat.le_of_ble_eq_true rfl) rfl (htl _ mw_668) (fun _ h9 => h9) dX13_readPart_116 (fun v9 e9 => ?_)
            refine fx_ti (v := v137) (e9.symm.trans hf136) ?_
            refine lv_if_ne (tgt := 153) hx hb dX13_readPart_119 (by decide) (fun c9 => ?_) (fun c9 => ?_)
            · have hc141 : ¬ (v137.toInt = 0) := fun h9 => c9 ((fi_eq rfl (show (0 : Int32).toInt = 0 by decide)).mpr h9)
              refine lv_iconst (v := 3) hx hb dX13_readPart_153 (by decide) ?_
              have hk_3 : (3 : Int32).toInt = 3 := by decide
              exact mz_iret (v := 3) hx hb hr rfl hlocks ⟨hIF, hIG, hIR, hFF, hRR, hGG, (by rw [hf128, hf130]; omega), (by rw [hf130]; omega), (by rw [hf128, hf130, hf132]; omega), (by rw [hf128, hf130, hf132, hf134]; omega), (by rw [hf128]; omega), (by rw [hf128, hf138, hg_7]; omega), (by rw [hf138]; omega), (by rw [hf128, hf136]; omega), (by omega), (by omega), (by rw [hf136]; exact fun h9 => absurd h9 (by omega))⟩ hM hS dX13_readPart_154
            · have hc141 : v137.toInt = 0 := (fi_eq rfl (show (0 : Int32).toInt = 0 by decide)).mp c9
              refine lv_aload_n hx hb dX13_readPart_122 rfl (lv_at hl 2 rfl) ?_
              refine mz_getI hx hb htl hown hK hM 23 (Nat.le_of_ble_eq_true rfl) rfl (htl _ mw_670) (fun _ h9 => h9) dX13_readPart_123 (fun v9 e9 => ?_)
              refine fx_ti (v := v139) (e9.symm.trans hf138) ?_
              refine lv_iconst (v := 1) hx hb dX13_readPart_126 (by decide) ?_
              refine lv_isub hx hb dX13_readPart_127 ?_
              refine tk_sub rfl (show (1 : Int32).toInt = 1 by decide) (by omega) (by omega) (fun v142 h_v142 => ?_)
              refine lv_istore_n (lv' := [(3, .int v142), (2, .int 0), (1, .int v111), (0, .ref am)]) hx hb dX13_readPart_128 rfl hl (by decide) rfl (fun ls hl => ?_)
              have hlf := hx126 (by rw [hf136]; omega)
              rw [hf138, hg_7] at hlf
              have hPI : PI (R 24) (R 25) (R 27) (R 28) zs v139.toInt.toNat gd.toInt.toNat 1 := hlf.1
              have hLo := And.intro hlf.2.1 hlf.2.2.1
              have hop : R 24 v142.toInt.toNat = v111 := by rw [hlf.2.2.2, show v142.toInt.toNat = gc.toInt.toNat by omega]; exact pk_us
              refine lv_aload_n hx hb dX13_readPart_129 rfl (lv_at hl 3 rfl) ?_
              refine mz_getR hx hb htl hown hK hM 25 (Nat.le_of_ble_eq_true rfl) (Nat.le_of_ble_eq_true rfl) (htl _ mw_199) (fun _ h9 => h9) dX13_readPart_130 ?_
              refine lv_iload_n hx hb dX13_readPart_133 rfl (lv_at hl 0 rfl) ?_
              refine lv_aload_n hx hb dX13_readPart_134 rfl (lv_at hl 3 rfl) ?_
              refine lv_lconst (v := 0) hx hb dX13_readPart_135 (by decide) ?_
              refine lv_iload_n hx hb dX13_readPart_136 rfl (lv_at hl 2 rfl) ?_
              refine lv_bipush (v := 6) hx hb dX13_readPart_137 (by decide) ?_
              refine lv_icmp_ne (tgt := 148) hx hb dX13_readPart_139 (by decide) (fun c9 => ?_) (fun c9 => ?_)
              · have hc143 : ¬ (v111.toInt = 6) := fun h9 => c9 ((fi_eq rfl (show (6 : Int32).toInt = 6 by decide)).mpr h9)
                refine lv_lconst (v := 1) hx hb dX13_readPart_148 (by decide) ?_
                have hk_0 : (0 : Int64).toInt = 0 := by decide
                have hk_1 : (1 : Int64).toInt = 1 := by decide
                refine mz_Vi (As := [.long 0, .long 1]) (rest := [.int v142, .ref (ad 25)]) ⟨hx, hb, hml, hown, hts⟩ hK hM hS (k_X13_number l D cy ld ad am hD _ _ _ _ 0 1 v129 v131 v133 gp w135 v137 hIF hIG hIR hf128 hf130 hf132 hg_3 hf134 hf136 (by omega) (by omega) (by omega) (by omega) (by omega) (by omega) (by omega) (by omega)) ⟨callB_of 2 hts (wl_in mw_762) rfl rfl rfl (htl _ mw_5) (htl _ mw_759) hd_yX13_number ⟨(Nat.le_of_ble_eq_true rfl), (Nat.le_of_ble_eq_true rfl)⟩, htl _ mw_760, htl _ mw_761⟩ rfl hl.1 rfl (Nat.le_of_ble_eq_true rfl) dX13_readPart_149 ⟨(Nat.le_of_ble_eq_true rfl), (Nat.le_of_ble_eq_true rfl)⟩ (fun v144 H locs F G R S hpo hM hS => ?_)
                obtain ⟨hIF, hIG, hIR, hfr9, hrr9, hgr9, hpo145, hpo146, hpo147, hpo148, hpo149, hpo150, hpo151⟩ := hpo
                have hq_v144 := tk_rng v144
                have hFF := mz_fr (K := [14, 15, 16, 18, 19, 23, 26, 29, 30]) (Fa := Fa) hfr9 hFF (by decide)
                have hRR := mz_fr (K := [24, 25, 27, 28]) (Fa := Ra) hrr9 hRR (by decide)
                have hGG := mz_fr (K := [17]) (Fa := Ga) hgr9 hGG (by decide)
                have hg_3 := (hfr9 13 (by decide)).trans hg_3
                have hg_7 := (hfr9 29 (by decide)).trans hg_7
                have hf9 := (hfr9 20 (by decide)).trans hf9
                have hf138 := (hfr9 23 (by decide)).trans hf138
                obtain ⟨v154, hf153⟩ : ∃ z : Int32, F 14 = z := ⟨_, rfl⟩
                have hq_v154 := tk_rng v154
                rw [hf153] at hpo145 hpo147 hpo148 hpo149 hpo151
                have hr_v154 : 0 ≤ v154.toInt ∧ v154.toInt ≤ 400 := hIF.at hf153
                obtain ⟨v156, hf155⟩ : ∃ z : Int32, F 15 = z := ⟨_, rfl⟩
                have hq_v156 := tk_rng v156
                rw [hf155] at hpo145 hpo146 hpo147 hpo148
                have hr_v156 : 0 ≤ v156.toInt ∧ v156.toInt ≤ 400 := hIF.at hf155
                obtain ⟨v158, hf157⟩ : ∃ z : Int32, F 16 = z := ⟨_, rfl⟩
                have hq_v158 := tk_rng v158
                rw [hf157] at hpo147 hpo148
                have hr_v158 : 0 ≤ v158.toInt ∧ v158.toInt ≤ 3 := hIF.at hf157
                obtain ⟨w160, hf159⟩ : ∃ z : Int64, G 17 = z := ⟨_, rfl⟩
                have hq_w160 := tk_rngL w160
                rw [hf159] at hpo148
                obtain ⟨v162, hf161⟩ : ∃ z : Int32, F 19 = z := ⟨_, rfl⟩
                have hq_v162 := tk_rng v162
                rw [hf161] at hpo150 hpo151
                have hr_v162 : 0 ≤ v162.toInt ∧ v162.toInt ≤ 1 := hIF.at hf161
                have hPI := hPI.to (hrr9 24 (by decide)) (hrr9 25 (by decide)) (hrr9 27 (by decide)) (hrr9 28 (by decide)) rfl rfl
                have hLo := And.intro (hLo.1.to (hrr9 24 (by decide))) (hLo.2.to (hrr9 25 (by decide)))
                have hop := (congrFun (hrr9 24 (by decide)) _).trans hop
                refine mz_iast (x := v144) hx hb hK hD hM hS 25 (Nat.le_of_ble_eq_true rfl) rfl (nn := 400) rfl rfl (by omega) (by omega) dX13_readPart_152 (fun H locs R hM hS hw9 hj9 => ?_)
                have hIR := hIR.put hw9 hj9 trivial
                have hw25 := hw9
                have hPI := hPI.to (hj9 24 (by decide)) rfl (hj9 27 (by decide)) (hj9 28 (by decide)) rfl rfl
                have hop := (congrFun (hj9 24 (by decide)) _).trans hop
                have hLo := And.intro (hLo.1.to (hj9 24 (by decide))) hLo.2
                have hz9 := hPI.1
                have hRR := mz_frp (K := [24, 25, 27, 28]) (Fa := Ra) hj9 hRR (by decide)
                refine lv_iconst (v := 3) hx hb dX13_readPart_153 (by decide) ?_
                have hk_3 : (3 : Int32).toInt = 3 := by decide
                exact mz_iret (v := 3) hx hb hr rfl hlocks ⟨hIF, hIG, hIR, hFF, hRR, hGG, (by rw [hf153, hf155]; omega), (by rw [hf155]; omega), (by rw [hf153, hf155, hf157]; omega), (by rw [hf153, hf155, hf157, hf159]; omega), (by rw [hf153]; omega), (by rw [hf153, hf138, hg_7]; omega), (by rw [hf138]; omega), (by rw [hf153, hf161]; omega), (by omega), (by omega), (by rw [hf161]; exact fun h9 => ⟨PT.mk (PI.argset (n := v142.toInt.toNat) (y := v144) hPI (by rw [hop]; omega) (by omega) rfl) (by decide) (fun h8 => absurd h8 (by decide)) (fun h8 => absurd h8 (by decide)) rfl hw25 rfl rfl (by rw [hf138]) (by rw [hg_7]), hLo.1, (hLo.2.upd (n := v142.toInt.toNat) (by omega)).to hw25⟩)⟩ hM hS dX13_readPart_154
              · have hc143 : v111.toInt = 6 := (fi_eq rfl (show (6 : Int32).toInt = 6 by decide)).mp c9
                refine lv_ldc2 hx hb hown (htl _ mw_742) dX13_readPart_142 ?_
                refine lv_goto (tgt := 149) hx hb dX13_readPart_145 (by decide) ?_
                have hk_0 : (0 : Int64).toInt = 0 := by decide
                have hk_7 : (7 : Int64).toInt = 7 := by decide
                refine mz_Vi (As := [.long 0, .long 7]) (rest := [.int v142, .ref (ad 25)]) ⟨hx, hb, hml, hown, hts⟩ hK hM hS (k_X13_number l D cy ld ad am hD _ _ _ _ 0 7 v129 v131 v133 gp w135 v137 hIF hIG hIR hf128 hf130 hf132 hg_3 hf134 hf136 (by omega) (by omega) (by omega) (by omega) (by omega) (by omega) (by omega) (by omega)) ⟨callB_of 2 hts (wl_in mw_762) rfl rfl rfl (htl _ mw_5) (htl _ mw_759) hd_yX13_number ⟨(Nat.le_of_ble_eq_true rfl), (Nat.le_of_ble_eq_true rfl)⟩, htl _ mw_760, htl _ mw_761⟩ rfl hl.1 rfl (Nat.le_of_ble_eq_true rfl) dX13_readPart_149 ⟨(Nat.le_of_ble_eq_true rfl), (Nat.le_of_ble_eq_true rfl)⟩ (fun v164 H locs F G R S hpo hM hS => ?_)
                obtain ⟨hIF, hIG, hIR, hfr9, hrr9, hgr9, hpo165, hpo166, hpo167, hpo168, hpo169, hpo170, hpo171⟩ := hpo
                have hq_v164 := tk_rng v164
                have hFF := mz_fr (K := [14, 15, 16, 18, 19, 23, 26, 29, 30]) (Fa := Fa) hfr9 hFF (by decide)
                have hRR := mz_fr (K := [24, 25, 27, 28]) (Fa := Ra) hrr9 hRR (by decide)
                have hGG := mz_fr (K := [17]) (Fa := Ga) hgr9 hGG (by decide)
                have hg_3 := (hfr9 13 (by decide)).trans hg_3
                have hg_7 := (hfr9 29 (by decide)).trans hg_7
                have hf9 := (hfr9 20 (by decide)).trans hf9
                have hf138 := (hfr9 23 (by decide)).trans hf138
                obtain ⟨v174, hf173⟩ : ∃ z : Int32, F 14 = z := ⟨_, rfl⟩
                have hq_v174 := tk_rng v174
                rw [hf173] at hpo165 hpo167 hpo168 hpo169 hpo171
                have hr_v174 : 0 ≤ v174.toInt ∧ v174.toInt ≤ 400 := hIF.at hf173
                obtain ⟨v176, hf175⟩ : ∃ z : Int32, F 15 = z := ⟨_, rfl⟩
                have hq_v176 := tk_rng v176
                rw [hf175] at hpo165 hpo166 hpo167 hpo168
                have hr_v176 : 0 ≤ v176.toInt ∧ v176.toInt ≤ 400 := hIF.at hf175
                obtain ⟨v178, hf177⟩ : ∃ z : Int32, F 16 = z := ⟨_, rfl⟩
                have hq_v178 := tk_rng v178
                rw [hf177] at hpo167 hpo168
                have hr_v178 : 0 ≤ v178.toInt ∧ v178.toInt ≤ 3 := hIF.at hf177
                obtain ⟨w180, hf179⟩ : ∃ z : Int64, G 17 = z := ⟨_, rfl⟩
                have hq_w180 := tk_rngL w180
                rw [hf179] at hpo168
                obtain ⟨v182, hf181⟩ : ∃ z : Int32, F 19 = z := ⟨_, rfl⟩
                have hq_v182 := tk_rng v182
                rw [hf181] at hpo170 hpo171
                have hr_v182 : 0 ≤ v182.toInt ∧ v182.toInt ≤ 1 := hIF.at hf181
                have hPI := hPI.to (hrr9 24 (by decide)) (hrr9 25 (by decide)) (hrr9 27 (by decide)) (hrr9 28 (by decide)) rfl rfl
                have hLo := And.intro (hLo.1.to (hrr9 24 (by decide))) (hLo.2.to (hrr9 25 (by decide)))
                have hop := (congrFun (hrr9 24 (by decide)) _).trans hop
                refine mz_iast (x := v164) hx hb hK hD hM hS 25 (Nat.le_of_ble_eq_true rfl) rfl (nn := 400) rfl rfl (by omega) (by omega) dX13_readPart_152 (fun H locs R hM hS hw9 hj9 => ?_)
                have hIR := hIR.put hw9 hj9 trivial
                have hw25 := hw9
                have hPI := hPI.to (hj9 24 (by decide)) rfl (hj9 27 (by decide)) (hj9 28 (by decide)) rfl rfl
                have hop := (congrFun (hj9 24 (by decide)) _).trans hop
                have hLo := And.intro (hLo.1.to (hj9 24 (by decide))) hLo.2
                have hz9 := hPI.1
                have hRR := mz_frp (K := [24, 25, 27, 28]) (Fa := Ra) hj9 hRR (by decide)
                refine lv_iconst (v := 3) hx hb dX13_readPart_153 (by decide) ?_
                have hk_3 : (3 : Int32).toInt = 3 := by decide
                exact mz_iret (v := 3) hx hb hr rfl hlocks ⟨hIF, hIG, hIR, hFF, hRR, hGG, (by rw [hf173, hf175]; omega), (by rw [hf175]; omega), (by rw [hf173, hf175, hf177]; omega), (by rw [hf173, hf175, hf177, hf179]; omega), (by rw [hf173]; omega), (by rw [hf173, hf138, hg_7]; omega), (by rw [hf138]; omega), (by rw [hf173, hf181]; omega), (by omega), (by omega), (by rw [hf181]; exact fun h9 => ⟨PT.mk (PI.argset (n := v142.toInt.toNat) (y := v164) hPI (by rw [hop]; omega) (by omega) rfl) (by decide) (fun h8 => absurd h8 (by decide)) (fun h8 => absurd h8 (by decide)) rfl hw25 rfl rfl (by rw [hf138]) (by rw [hg_7]), hLo.1, (hLo.2.upd (n := v142.toInt.toNat) (by omega)).to hw25⟩)⟩ hM hS dX13_readPart_154
        · have hc117 : v111.toInt = (-1) := (fi_eq rfl (show ((-1) : Int32).toInt = (-1) by decide)).mp c9
          refine lv_iload_n hx hb dX13_readPart_67 rfl (lv_at hl 0 rfl) ?_
          refine lv_if_eq (tgt := 75) hx hb dX13_readPart_68 (by decide) (fun _ => ?_) (fun c9 => absurd (by decide) c9)
          refine lv_iconst (v := 0) hx hb dX13_readPart_75 (by decide) ?_
          refine lv_iload_n hx hb dX13_readPart_76 rfl (lv_at hl 1 rfl) ?_
          refine lv_iconst (v := (-1)) hx hb dX13_readPart_77 (by decide) ?_
          refine lv_icmp_ne (tgt := 85) hx hb dX13_readPart_78 (by decide) (fun c9 => absurd ((fi_eq rfl (show ((-1) : Int32).toInt = (-1) by decide)).mpr (show v111.toInt = (-1) by omega)) c9) (fun _ => ?_)
          refine lv_iconst (v := 0) hx hb dX13_readPart_81 (by decide) ?_
          refine lv_goto (tgt := 86) hx hb dX13_readPart_82 (by decide) ?_
          refine lv_iload_n hx hb dX13_readPart_86 rfl (lv_at hl 0 rfl) ?_
          refine lv_if_eq (tgt := 98) hx hb dX13_readPart_87 (by decide) (fun _ => ?_) (fun c9 => absurd (by decide) c9)
          refine lv_iconst (v := 0) hx hb dX13_readPart_98 (by decide) ?_
          have hk_0 : (0 : Int32).toInt = 0 := by decide
          have hk_0 : (0 : Int32).toInt = 0 := by decide
          have hk_0 : (0 : Int32).toInt = 0 := by decide
          refine mz_Vv (As := [.int 0, .int 0, .int 0]) (rest := []) ⟨hx, hb, hml, hown, hts⟩ hK hM hS (k_X13_leaf l D cy ld ad am hD _ _ _ _ 0 0 0 gf gt gs gp gw gb gc gd zs hIF hIG hIR hg_0 hg_1 hg_2 hg_3 hg_4 hg_5 hg_6 hg_7 (by omega) (by omega) (by omega) (by omega) (by omega) (by omega) (by omega) (by omega) (by omega) (by omega) (by omega) (by omega) hPI) ⟨callB_of 3 hts (wl_in mw_754) rfl rfl rfl (htl _ mw_5) (htl _ mw_751) hd_yX13_leaf ⟨(Nat.le_of_ble_eq_true rfl), (Nat.le_of_ble_eq_true rfl)⟩, htl _ mw_752, htl _ mw_753⟩ rfl hl.1 rfl (Nat.le_of_ble_eq_true rfl) dX13_readPart_99 ⟨(Nat.le_of_ble_eq_true rfl), (Nat.le_of_ble_eq_true rfl)⟩ (fun H locs F G R S hpo hM hS => ?_)
          obtain ⟨hIF, hIG, hIR, hfr9, hrr9, hgr9, hpo184, hpo185, hpo186, hpo187, hpo188, hpo189, hpo190, hpo191, hx192⟩ := hpo
          have hFF := mz_fr (K := [14, 15, 16, 18, 19, 23, 26, 29, 30]) (Fa := Fa) hfr9 (fun _ _ => rfl) (by decide)
          have hRR := mz_fr (K := [24, 25, 27, 28]) (Fa := Ra) hrr9 (fun _ _ => rfl) (by decide)
          have hGG := mz_fr (K := [17]) (Fa := Ga) hgr9 (fun _ _ => rfl) (by decide)
          have hg_3 := (hfr9 13 (by decide)).trans hg_3
          have hg_7 := (hfr9 29 (by decide)).trans hg_7
          have hf9 := (hfr9 20 (by decide)).trans hf9
          obtain ⟨v195, hf194⟩ : ∃ z : Int32, F 14 = z := ⟨_, rfl⟩
          have hq_v195 := tk_rng v195
          rw [hf194] at hpo184 hpo186 hpo187 hpo188 hpo189 hpo191
          have hr_v195 : 0 ≤ v195.toInt ∧ v195.toInt ≤ 400 := hIF.at hf194
          obtain ⟨v197, hf196⟩ : ∃ z : Int32, F 15 = z := ⟨_, rfl⟩
          have hq_v197 := tk_rng v197
          rw [hf196] at hpo184 hpo185 hpo186 hpo187
          have hr_v197 : 0 ≤ v197.toInt ∧ v197.toInt ≤ 400 := hIF.at hf196
          obtain ⟨v199, hf198⟩ : ∃ z : Int32, F 16 = z := ⟨_, rfl⟩
          have hq_v199 := tk_rng v199
          rw [hf198] at hpo186 hpo187
          have hr_v199 : 0 ≤ v199.toInt ∧ v199.toInt ≤ 3 := hIF.at hf198
          obtain ⟨w201, hf200⟩ : ∃ z : Int64, G 17 = z := ⟨_, rfl⟩
          have hq_w201 := tk_rngL w201
          rw [hf200] at hpo187
          obtain ⟨v203, hf202⟩ : ∃ z : Int32, F 19 = z := ⟨_, rfl⟩
          have hq_v203 := tk_rng v203
          rw [hf202] at hpo191
          have hr_v203 : 0 ≤ v203.toInt ∧ v203.toInt ≤ 1 := hIF.at hf202
          obtain ⟨v205, hf204⟩ : ∃ z : Int32, F 23 = z := ⟨_, rfl⟩
          have hq_v205 := tk_rng v205
          rw [hf204] at hpo189 hpo190 hpo191
          have hr_v205 : 0 ≤ v205.toInt ∧ v205.toInt ≤ 400 := hIF.at hf204
          refine lv_aload_n hx hb dX13_readPart_102 rfl (lv_at hl 2 rfl) ?_
          refine mz_getI hx hb htl hown hK hM 20 (Nat.le_of_ble_eq_true rfl) rfl (htl _ mw_675) (fun _ h9 => h9) dX13_readPart_103 (fun v9 e9 => ?_)
          refine fx_ti (v := v10) (e9.symm.trans hf9) ?_
          refine lv_if_eq (tgt := 153) hx hb dX13_readPart_106 (by decide) (fun c9 => absurd (show v10.toInt = 0 from (fi_eq rfl (show (0 : Int32).toInt = 0 by decide)).mp c9) (by omega)) (fun _ => ?_)
          refine lv_iload_n hx hb dX13_readPart_109 rfl (lv_at hl 1 rfl) ?_
          refine lv_bipush (v := 6) hx hb dX13_readPart_110 (by decide) ?_
          refine lv_icmp_lt (tgt := 153) hx hb dX13_readPart_112 (by decide) (fun _ => ?_) (fun c9 => absurd ((fi_lt rfl (show (6 : Int32).toInt = 6 by decide)).mpr (show v111.toInt < 6 by omega)) c9)
          refine lv_iconst (v := 3) hx hb dX13_readPart_153 (by decide) ?_
          have hk_3 : (3 : Int32).toInt = 3 := by decide
          exact mz_iret (v := 3) hx hb hr rfl hlocks ⟨hIF, hIG, hIR, hFF, hRR, hGG, (by rw [hf194, hf196]; omega), (by rw [hf196]; omega), (by rw [hf194, hf196, hf198]; omega), (by rw [hf194, hf196, hf198, hf200]; omega), (by rw [hf194]; omega), (by rw [hf194, hf204, hg_7]; omega), (by rw [hf204]; omega), (by rw [hf194, hf202]; omega), (by omega), (by omega), (fun h9 => ⟨PT.mk (hx192 h9).1 (by decide) (fun h8 => absurd h8 (by decide)) (fun h8 => absurd h8 (by decide)) rfl rfl rfl rfl rfl rfl, (hx192 h9).2.1, (hx192 h9).2.2.1⟩)⟩ hM hS dX13_readPart_154
      · have hc116 : gs.toInt = 2 := (fi_eq rfl (show (2 : Int32).toInt = 2 by decide)).mp c9
        refine lv_aload_n hx hb dX13_readPart_44 rfl (lv_at hl 1 rfl) ?_
        refine mz_getJ hx hb htl hown hK hM 17 (Nat.le_of_ble_eq_true rfl) rfl (htl _ mw_687) (fun _ h9 => h9) dX13_readPart_45 (fun v9 e9 => ?_)
        refine fx_tl (v := gw) (e9.symm.trans hg_4) ?_
        refine lv_ldc2 hx hb hown (htl _ mw_741) dX13_readPart_48 ?_
        refine W.lcmp hx hb dX13_readPart_51 ?_
        refine lv_if_gt (tgt := 59) hx hb dX13_readPart_52 (by decide) (fun c9 => ?_) (fun c9 => ?_)
        · have hc206 : 1000 < gw.toInt := ((lg_cmp_gt _ _).trans (fl_lt (show (1000 : Int64).toInt = 1000 by decide) rfl)).mp c9
          refine lv_iconst (v := 0) hx hb dX13_readPart_59 (by decide) ?_
          refine lv_istore_n (lv' := [(2, .int 0), (1, .int v111), (0, .ref am)]) hx hb dX13_readPart_60 rfl hl (by decide) rfl (fun ls hl => ?_)
          refine lv_aload_n hx hb dX13_readPart_61 rfl (lv_at hl 2 rfl) ?_
          refine lv_iload_n hx hb dX13_readPart_62 rfl (lv_at hl 1 rfl) ?_
          refine lv_iconst (v := (-1)) hx hb dX13_readPart_63 (by decide) ?_
          refine lv_icmp_ne (tgt := 71) hx hb dX13_readPart_64 (by decide) (fun c9 => ?_) (fun c9 => ?_)
          · have hc207 : ¬ (v111.toInt = (-1)) := fun h9 => c9 ((fi_eq rfl (show ((-1) : Int32).toInt = (-1) by decide)).mpr h9)
            exfalso
            omega
          · have hc207 : v111.toInt = (-1) := (fi_eq rfl (show ((-1) : Int32).toInt = (-1) by decide)).mp c9
            refine lv_iload_n hx hb dX13_readPart_67 rfl (lv_at hl 0 rfl) ?_
            refine lv_if_eq (tgt := 75) hx hb dX13_readPart_68 (by decide) (fun _ => ?_) (fun c9 => absurd (by decide) c9)
            refine lv_iconst (v := 0) hx hb dX13_readPart_75 (by decide) ?_
            refine lv_iload_n hx hb dX13_readPart_76 rfl (lv_at hl 1 rfl) ?_
            refine lv_iconst (v := (-1)) hx hb dX13_readPart_77 (by decide) ?_
            refine lv_icmp_ne (tgt := 85) hx hb dX13_readPart_78 (by decide) (fun c9 => absurd ((fi_eq rfl (show ((-1) : Int32).toInt = (-1) by decide)).mpr (show v111.toInt = (-1) by omega)) c9) (fun _ => ?_)
            refine lv_iconst (v := 0) hx hb dX13_readPart_81 (by decide) ?_
            refine lv_goto (tgt := 86) hx hb dX13_readPart_82 (by decide) ?_
            refine lv_iload_n hx hb dX13_readPart_86 rfl (lv_at hl 0 rfl) ?_
            refine lv_if_eq (tgt := 98) hx hb dX13_readPart_87 (by decide) (fun _ => ?_) (fun c9 => absurd (by decide) c9)
            refine lv_iconst (v := 0) hx hb dX13_readPart_98 (by decide) ?_
            have hk_0 : (0 : Int32).toInt = 0 := by decide
            have hk_0 : (0 : Int32).toInt = 0 := by decide
            have hk_0 : (0 : Int32).toInt = 0 := by decide
            refine mz_Vv (As := [.int 0, .int 0, .int 0]) (rest := []) ⟨hx, hb, hml, hown, hts⟩ hK hM hS (k_X13_leaf l D cy ld ad am hD _ _ _ _ 0 0 0 gf gt gs gp gw gb gc gd zs hIF hIG hIR hg_0 hg_1 hg_2 hg_3 hg_4 hg_5 hg_6 hg_7 (by omega) (by omega) (by omega) (by omega) (by omega) (by omega) (by omega) (by omega) (by omega) (by omega) (by omega) (by omega) hPI) ⟨callB_of 3 hts (wl_in mw_754) rfl rfl rfl (htl _ mw_5) (htl _ mw_751) hd_yX13_leaf ⟨(Nat.le_of_ble_eq_true rfl), (Nat.le_of_ble_eq_true rfl)⟩, htl _ mw_752, htl _ mw_753⟩ rfl hl.1 rfl (Nat.le_of_ble_eq_true rfl) dX13_readPart_99 ⟨(Nat.le_of_ble_eq_true rfl), (Nat.le_of_ble_eq_true rfl)⟩ (fun H locs F G R S hpo hM hS => ?_)
            obtain ⟨hIF, hIG, hIR, hfr9, hrr9, hgr9, hpo208, hpo209, hpo210, hpo211, hpo212, hpo213, hpo214, hpo215, hx216⟩ := hpo
            have hFF := mz_fr (K := [14, 15, 16, 18, 19, 23, 26, 29, 30]) (Fa := Fa) hfr9 (fun _ _ => rfl) (by decide)
            have hRR := mz_fr (K := [24, 25, 27, 28]) (Fa := Ra) hrr9 (fun _ _ => rfl) (by decide)
            have hGG := mz_fr (K := [17]) (Fa := Ga) hgr9 (fun _ _ => rfl) (by decide)
            have hg_3 := (hfr9 13 (by decide)).trans hg_3
            have hg_7 := (hfr9 29 (by decide)).trans hg_7
            have hf9 := (hfr9 20 (by decide)).trans hf9
            obtain ⟨v219, hf218⟩ : ∃ z : Int32, F 14 = z := ⟨_, rfl⟩
            have hq_v219 := tk_rng v219
            rw [hf218] at hpo208 hpo210 hpo211 hpo212 hpo213 hpo215
            have hr_v219 : 0 ≤ v219.toInt ∧ v219.toInt ≤ 400 := hIF.at hf218
            obtain ⟨v221, hf220⟩ : ∃ z : Int32, F 15 = z := ⟨_, rfl⟩
            have hq_v221 := tk_rng v221
            rw [hf220] at hpo208 hpo209 hpo210 hpo211
            have hr_v221 : 0 ≤ v221.toInt ∧ v221.toInt ≤ 400 := hIF.at hf220
            obtain ⟨v223, hf222⟩ : ∃ z : Int32, F 16 = z := ⟨_, rfl⟩
            have hq_v223 := tk_rng v223
            rw [hf222] at hpo210 hpo211
            have hr_v223 : 0 ≤ v223.toInt ∧ v223.toInt ≤ 3 := hIF.at hf222
            obtain ⟨w225, hf224⟩ : ∃ z : Int64, G 17 = z := ⟨_, rfl⟩
            have hq_w225 := tk_rngL w225
            rw [hf224] at hpo211
            obtain ⟨v227, hf226⟩ : ∃ z : Int32, F 19 = z := ⟨_, rfl⟩
            have hq_v227 := tk_rng v227
            rw [hf226] at hpo215
            have hr_v227 : 0 ≤ v227.toInt ∧ v227.toInt ≤ 1 := hIF.at hf226
            obtain ⟨v229, hf228⟩ : ∃ z : Int32, F 23 = z := ⟨_, rfl⟩
            have hq_v229 := tk_rng v229
            rw [hf228] at hpo213 hpo214 hpo215
            have hr_v229 : 0 ≤ v229.toInt ∧ v229.toInt ≤ 400 := hIF.at hf228
            refine lv_aload_n hx hb dX13_readPart_102 rfl (lv_at hl 2 rfl) ?_
            refine mz_getI hx hb htl hown hK hM 20 (Nat.le_of_ble_eq_true rfl) rfl (htl _ mw_675) (fun _ h9 => h9) dX13_readPart_103 (fun v9 e9 => ?_)
            refine fx_ti (v := v10) (e9.symm.trans hf9) ?_
            refine lv_if_eq (tgt := 153) hx hb dX13_readPart_106 (by decide) (fun c9 => absurd (show v10.toInt = 0 from (fi_eq rfl (show (0 : Int32).toInt = 0 by decide)).mp c9) (by omega)) (fun _ => ?_)
            refine lv_iload_n hx hb dX13_readPart_109 rfl (lv_at hl 1 rfl) ?_
            refine lv_bipush (v := 6) hx hb dX13_readPart_110 (by decide) ?_
            refine lv_icmp_lt (tgt := 153) hx hb dX13_readPart_112 (by decide) (fun _ => ?_) (fun c9 => absurd ((fi_lt rfl (show (6 : Int32).toInt = 6 by decide)).mpr (show v111.toInt < 6 by omega)) c9)
            refine lv_iconst (v := 3) hx hb dX13_readPart_153 (by decide) ?_
            have hk_3 : (3 : Int32).toInt = 3 := by decide
            exact mz_iret (v := 3) hx hb hr rfl hlocks ⟨hIF, hIG, hIR, hFF, hRR, hGG, (by rw [hf218, hf220]; omega), (by rw [hf220]; omega), (by rw [hf218, hf220, hf222]; omega), (by rw [hf218, hf220, hf222, hf224]; omega), (by rw [hf218]; omega), (by rw [hf218, hf228, hg_7]; omega), (by rw [hf228]; omega), (by rw [hf218, hf226]; omega), (by omega), (by omega), (fun h9 => ⟨PT.mk (hx216 h9).1 (by decide) (fun h8 => absurd h8 (by decide)) (fun h8 => absurd h8 (by decide)) rfl rfl rfl rfl rfl rfl, (hx216 h9).2.1, (hx216 h9).2.2.1⟩)⟩ hM hS dX13_readPart_154
        · have hc206 : ¬ (1000 < gw.toInt) := fun h9 => c9 (((lg_cmp_gt _ _).trans (fl_lt (show (1000 : Int64).toInt = 1000 by decide) rfl)).mpr h9)
          refine lv_iconst (v := 1) hx hb dX13_readPart_55 (by decide) ?_
          refine lv_goto (tgt := 60) hx hb dX13_readPart_56 (by decide) ?_
          refine lv_istore_n (lv' := [(2, .int 1), (1, .int v111), (0, .ref am)]) hx hb dX13_readPart_60 rfl hl (by decide) rfl (fun ls hl => ?_)
          refine lv_aload_n hx hb dX13_readPart_61 rfl (lv_at hl 2 rfl) ?_
          refine lv_iload_n hx hb dX13_readPart_62 rfl (lv_at hl 1 rfl) ?_
          refine lv_iconst (v := (-1)) hx hb dX13_readPart_63 (by decide) ?_
          refine lv_icmp_ne (tgt := 71) hx hb dX13_readPart_64 (by decide) (fun c9 => ?_) (fun c9 => ?_)
          · have hc230 : ¬ (v111.toInt = (-1)) := fun h9 => c9 ((fi_eq rfl (show ((-1) : Int32).toInt = (-1) by decide)).mpr h9)
            exfalso
            omega
          · have hc230 : v111.toInt = (-1) := (fi_eq rfl (show ((-1) : Int32).toInt = (-1) by decide)).mp c9
            refine lv_iload_n hx hb dX13_readPart_67 rfl (lv_at hl 0 rfl) ?_
            refine lv_if_eq (tgt := 75) hx hb dX13_readPart_68 (by decide) (fun c9 => absurd c9 (by decide)) (fun _ => ?_)
            refine lv_iconst (v := 1) hx hb dX13_readPart_71 (by decide) ?_
            refine lv_goto (tgt := 76) hx hb dX13_readPart_72 (by decide) ?_
            refine lv_iload_n hx hb dX13_readPart_76 rfl (lv_at hl 1 rfl) ?_
            refine lv_iconst (v := (-1)) hx hb dX13_readPart_77 (by decide) ?_
            refine lv_icmp_ne (tgt := 85) hx hb dX13_readPart_78 (by decide) (fun c9 => absurd ((fi_eq rfl (show ((-1) : Int32).toInt = (-1) by decide)).mpr (show v111.toInt = (-1) by omega)) c9) (fun _ => ?_)
            refine lv_iconst (v := 0) hx hb dX13_readPart_81 (by decide) ?_
            refine lv_goto (tgt := 86) hx hb dX13_readPart_82 (by decide) ?_
            refine lv_iload_n hx hb dX13_readPart_86 rfl (lv_at hl 0 rfl) ?_
            refine lv_if_eq (tgt := 98) hx hb dX13_readPart_87 (by decide) (fun c9 => absurd c9 (by decide)) (fun _ => ?_)
            refine lv_aload_n hx hb dX13_readPart_90 rfl (lv_at hl 2 rfl) ?_
            refine mz_getJ hx hb htl hown hK hM 17 (Nat.le_of_ble_eq_true rfl) rfl (htl _ mw_687) (fun _ h9 => h9) dX13_readPart_91 (fun v9 e9 => ?_)
            refine fx_tl (v := gw) (e9.symm.trans hg_4) ?_
            obtain ⟨v231, e_v231⟩ : ∃ z : Int32, gw.toInt32 = z := ⟨_, rfl⟩
            refine lv_l2i (v := v231) hx hb dX13_readPart_94 e_v231 ?_
            have hq_v231 := tk_rng v231
            have hl_v231 : -2147483648 ≤ gw.toInt → gw.toInt ≤ 2147483647 → v231.toInt = gw.toInt := fun h1 h2 => e_v231 ▸ tk_l2i h1 h2
            refine lv_goto (tgt := 99) hx hb dX13_readPart_95 (by decide) ?_
            have hk_1 : (1 : Int32).toInt = 1 := by decide
            have hk_0 : (0 : Int32).toInt = 0 := by decide
            refine mz_Vv (As := [.int 1, .int 0, .int v231]) (rest := []) ⟨hx, hb, hml, hown, hts⟩ hK hM hS (k_X13_leaf l D cy ld ad am hD _ _ _ _ 1 0 v231 gf gt gs gp gw gb gc gd zs hIF hIG hIR hg_0 hg_1 hg_2 hg_3 hg_4 hg_5 hg_6 hg_7 (by omega) (by omega) (by omega) (by omega) (by omega) (by omega) (by omega) (by omega) (by omega) (by omega) (by omega) (by omega) hPI) ⟨callB_of 3 hts (wl_in mw_754) rfl rfl rfl (htl _ mw_5) (htl _ mw_751) hd_yX13_leaf ⟨(Nat.le_of_ble_eq_true rfl), (Nat.le_of_ble_eq_true rfl)⟩, htl _ mw_752, htl _ mw_753⟩ rfl hl.1 rfl (Nat.le_of_ble_eq_true rfl) dX13_readPart_99 ⟨(Nat.le_of_ble_eq_true rfl), (Nat.le_of_ble_eq_true rfl)⟩ (fun H locs F G R S hpo hM hS => ?_)
            obtain ⟨hIF, hIG, hIR, hfr9, hrr9, hgr9, hpo232, hpo233, hpo234, hpo235, hpo236, hpo237, hpo238, hpo239, hx240⟩ := hpo
            have hFF := mz_fr (K := [14, 15, 16, 18, 19, 23, 26, 29, 30]) (Fa := Fa) hfr9 (fun _ _ => rfl) (by decide)
            have hRR := mz_fr (K := [24, 25, 27, 28]) (Fa := Ra) hrr9 (fun _ _ => rfl) (by decide)
            have hGG := mz_fr (K := [17]) (Fa := Ga) hgr9 (fun _ _ => rfl) (by decide)
            have hg_3 := (hfr9 13 (by decide)).trans hg_3
            have hg_7 := (hfr9 29 (by decide)).trans hg_7
            have hf9 := (hfr9 20 (by decide)).trans hf9
            obtain ⟨v243, hf242⟩ : ∃ z : Int32, F 14 = z := ⟨_, rfl⟩
            have hq_v243 := tk_rng v243
            rw [hf242] at hpo232 hpo234 hpo235 hpo236 hpo237 hpo239
            have hr_v243 : 0 ≤ v243.toInt ∧ v243.toInt ≤ 400 := hIF.at hf242
            obtain ⟨v245, hf244⟩ : ∃ z : Int32, F 15 = z := ⟨_, rfl⟩
            have hq_v245 := tk_rng v245
            rw [hf244] at hpo232 hpo233 hpo234 hpo235
            have hr_v245 : 0 ≤ v245.toInt ∧ v245.toInt ≤ 400 := hIF.at hf244
            obtain ⟨v247, hf246⟩ : ∃ z : Int32, F 16 = z := ⟨_, rfl⟩
            have hq_v247 := tk_rng v247
            rw [hf246] at hpo234 hpo235
            have hr_v247 : 0 ≤ v247.toInt ∧ v247.toInt ≤ 3 := hIF.at hf246
            obtain ⟨w249, hf248⟩ : ∃ z : Int64, G 17 = z := ⟨_, rfl⟩
            have hq_w249 := tk_rngL w249
            rw [hf248] at hpo235
            obtain ⟨v251, hf250⟩ : ∃ z : Int32, F 19 = z := ⟨_, rfl⟩
            have hq_v251 := tk_rng v251
            rw [hf250] at hpo239
            have hr_v251 : 0 ≤ v251.toInt ∧ v251.toInt ≤ 1 := hIF.at hf250
            obtain ⟨v253, hf252⟩ : ∃ z : Int32, F 23 = z := ⟨_, rfl⟩
            have hq_v253 := tk_rng v253
            rw [hf252] at hpo237 hpo238 hpo239
            have hr_v253 : 0 ≤ v253.toInt ∧ v253.toInt ≤ 400 := hIF.at hf252
            refine lv_aload_n hx hb dX13_readPart_102 rfl (lv_at hl 2 rfl) ?_
            refine mz_getI hx hb htl hown hK hM 20 (Nat.le_of_ble_eq_true rfl) rfl (htl _ mw_675) (fun _ h9 => h9) dX13_readPart_103 (fun v9 e9 => ?_)
            refine fx_ti (v := v10) (e9.symm.trans hf9) ?_
            refine lv_if_eq (tgt := 153) hx hb dX13_readPart_106 (by decide) (fun c9 => absurd (show v10.toInt = 0 from (fi_eq rfl (show (0 : Int32).toInt = 0 by decide)).mp c9) (by omega)) (fun _ => ?_)
            refine lv_iload_n hx hb dX13_readPart_109 rfl (lv_at hl 1 rfl) ?_
            refine lv_bipush (v := 6) hx hb dX13_readPart_110 (by decide) ?_
            refine lv_icmp_lt (tgt := 153) hx hb dX13_readPart_112 (by decide) (fun _ => ?_) (fun c9 => absurd ((fi_lt rfl (show (6 : Int32).toInt = 6 by decide)).mpr (show v111.toInt < 6 by omega)) c9)
            refine lv_iconst (v := 3) hx hb dX13_readPart_153 (by decide) ?_
            have hk_3 : (3 : Int32).toInt = 3 := by decide
            exact mz_iret (v := 3) hx hb hr rfl hlocks ⟨hIF, hIG, hIR, hFF, hRR, hGG, (by rw [hf242, hf244]; omega), (by rw [hf244]; omega), (by rw [hf242, hf244, hf246]; omega), (by rw [hf242, hf244, hf246, hf248]; omega), (by rw [hf242]; omega), (by rw [hf242, hf252, hg_7]; omega), (by rw [hf252]; omega), (by rw [hf242, hf250]; omega), (by omega), (by omega), (fun h9 => ⟨PT.mk (hx240 h9).1 (by decide) (fun h8 => absurd h8 (by decide)) (fun h8 => absurd h8 (by decide)) rfl rfl rfl rfl rfl rfl, (hx240 h9).2.1, (hx240 h9).2.2.1⟩)⟩ hM hS dX13_readPart_154
  · have hc8 : ¬ (v1.toInt = 0) := fun h9 => c9 ((fi_eq rfl (show (0 : Int32).toInt = 0 by decide)).mpr h9)
    refine lv_aload_n hx hb dX13_readPart_9 rfl (lv_at hl 0 rfl) ?_
    refine lv_bipush (v := 32) hx hb dX13_readPart_10 (by decide) ?_
    have hk_32 : (32 : Int32).toInt = 32 := by decide
    refine mz_Vv (As := [.int 32]) (rest := []) ⟨hx, hb, hml, hown, hts⟩ hK hM hS (k_X13_openBracket_32 l D cy ld ad am hD _ _ _ _ gf gt gs gp gw gb gc gd zs hIF hIG hIR hg_0 hg_1 hg_2 hg_3 hg_4 hg_5 hg_6 hg_7 (by omega) (by omega) (by omega) (by omega) (by omega) (by omega) (by omega) hPI) ⟨callB_of 1 hts (wl_in mw_736) rfl rfl rfl (htl _ mw_5) (htl _ mw_733) hd_yX13_openBracket ⟨(Nat.le_of_ble_eq_true rfl), (Nat.le_of_ble_eq_true rfl)⟩, htl _ mw_734, htl _ mw_735⟩ rfl hl.1 rfl (Nat.le_of_ble_eq_true rfl) dX13_readPart_12 ⟨(Nat.le_of_ble_eq_true rfl), (Nat.le_of_ble_eq_true rfl)⟩ (fun H locs F G R S hpo hM hS => ?_)
    obtain ⟨hIF, hIG, hIR, hfr9, hrr9, hgr9, hpo254, hpo255, hpo256, hpo257, hpo258, hpo259, hpo260, hpo261, hx262⟩ := hpo
    have hFF := mz_fr (K := [14, 15, 16, 18, 19, 23, 26, 29, 30]) (Fa := Fa) hfr9 (fun _ _ => rfl) (by decide)
    have hRR := mz_fr (K := [24, 25, 27, 28]) (Fa := Ra) hrr9 (fun _ _ => rfl) (by decide)
    have hGG := mz_fr (K := [17]) (Fa := Ga) hgr9 (fun _ _ => rfl) (by decide)
    have hg_3 := (hfr9 13 (by decide)).trans hg_3
    have hg_6 := (hfr9 23 (by decide)).trans hg_6
    obtain ⟨v265, hf264⟩ : ∃ z : Int32, F 14 = z := ⟨_, rfl⟩
    have hq_v265 := tk_rng v265
    rw [hf264] at hpo254 hpo256 hpo257 hpo258 hpo259 hpo261
    have hr_v265 : 0 ≤ v265.toInt ∧ v265.toInt ≤ 400 := hIF.at hf264
    obtain ⟨v267, hf266⟩ : ∃ z : Int32, F 15 = z := ⟨_, rfl⟩
    have hq_v267 := tk_rng v267
    rw [hf266] at hpo254 hpo255 hpo256 hpo257
    have hr_v267 : 0 ≤ v267.toInt ∧ v267.toInt ≤ 400 := hIF.at hf266
    obtain ⟨v269, hf268⟩ : ∃ z : Int32, F 16 = z := ⟨_, rfl⟩
    have hq_v269 := tk_rng v269
    rw [hf268] at hpo256 hpo257
    have hr_v269 : 0 ≤ v269.toInt ∧ v269.toInt ≤ 3 := hIF.at hf268
    obtain ⟨w271, hf270⟩ : ∃ z : Int64, G 17 = z := ⟨_, rfl⟩
    have hq_w271 := tk_rngL w271
    rw [hf270] at hpo257
    obtain ⟨v273, hf272⟩ : ∃ z : Int32, F 19 = z := ⟨_, rfl⟩
    have hq_v273 := tk_rng v273
    rw [hf272] at hpo261
    have hr_v273 : 0 ≤ v273.toInt ∧ v273.toInt ≤ 1 := hIF.at hf272
    rw [hg_6] at hpo259 hpo260
    have hr_gc : 0 ≤ gc.toInt ∧ gc.toInt ≤ 400 := hIF.at hg_6
    obtain ⟨v275, hf274⟩ : ∃ z : Int32, F 29 = z := ⟨_, rfl⟩
    have hq_v275 := tk_rng v275
    rw [hf274] at hpo259
    have hr_v275 : 0 ≤ v275.toInt ∧ v275.toInt ≤ 400 := hIF.at hf274
    refine lv_iconst (v := 1) hx hb dX13_readPart_15 (by decide) ?_
    have hk_1 : (1 : Int32).toInt = 1 := by decide
    exact mz_iret (v := 1) hx hb hr rfl hlocks ⟨hIF, hIG, hIR, hFF, hRR, hGG, (by rw [hf264, hf266]; omega), (by rw [hf266]; omega), (by rw [hf264, hf266, hf268]; omega), (by rw [hf264, hf266, hf268, hf270]; omega), (by rw [hf264]; omega), (by rw [hf264, hg_6, hf274]; omega), (by rw [hg_6]; omega), (by rw [hf264, hf272]; omega), (by omega), (by omega), (fun h9 => hx262 h9)⟩ hM hS dX13_readPart_16
