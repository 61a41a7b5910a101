section
theorem hd_yX13_caught : yX13_caught.cls ≠ "java/lang/invoke/MethodHandle" ∧ yX13_caught.cls ≠ "java/lang/invoke/VarHandle" ∧ (parseMethodDescriptor yX13_caught.desc).map (fun d => d.parameters.length) = some 2 := by decide +kernel
theorem dX13_catching_0 : decode cX13_catching 0 = .ok (.aload_n 0, 1) := by decide +kernel
theorem dX13_catching_1 : decode cX13_catching 1 = .ok (.iconst 0, 1) := by decide +kernel
theorem dX13_catching_2 : decode cX13_catching 2 = .ok (.putfield 170, 3) := by decide +kernel
theorem dX13_catching_5 : decode cX13_catching 5 = .ok (.aload_n 0, 1) := by decide +kernel
theorem dX13_catching_6 : decode cX13_catching 6 = .ok (.iload_n 1, 1) := by decide +kernel
theorem dX13_catching_7 : decode cX13_catching 7 = .ok (.invokevirtual 201, 3) := by decide +kernel
theorem dX13_catching_10 : decode cX13_catching 10 = .ok (.ifCond .eq 13, 3) := by decide +kernel
theorem dX13_catching_23 : decode cX13_catching 23 = .ok (.iconst (-1), 1) := by decide +kernel
theorem dX13_catching_24 : decode cX13_catching 24 = .ok (.ireturn, 1) := by decide +kernel
theorem dX13_catching_13 : decode cX13_catching 13 = .ok (.iload_n 2, 1) := by decide +kernel
theorem dX13_catching_14 : decode cX13_catching 14 = .ok (.i2l, 1) := by decide +kernel
theorem dX13_catching_15 : decode cX13_catching 15 = .ok (.lconst 0, 1) := by decide +kernel
theorem dX13_catching_16 : decode cX13_catching 16 = .ok (.lconst 1, 1) := by decide +kernel
theorem dX13_catching_17 : decode cX13_catching 17 = .ok (.invokestatic 190, 3) := by decide +kernel
theorem dX13_catching_20 : decode cX13_catching 20 = .ok (.ifCond .ne 5, 3) := by decide +kernel
theorem dX13_catching_25 : decode cX13_catching 25 = .ok (.aload_n 0, 1) := by decide +kernel
theorem dX13_catching_26 : decode cX13_catching 26 = .ok (.iload_n 1, 1) := by decide +kernel
theorem dX13_catching_27 : decode cX13_catching 27 = .ok (.iconst 0, 1) := by decide +kernel
theorem dX13_catching_28 : decode cX13_catching 28 = .ok (.invokevirtual 587, 3) := by decide +kernel
theorem dX13_catching_31 : decode cX13_catching 31 = .ok (.istore_n 3, 1) := by decide +kernel
theorem dX13_catching_32 : decode cX13_catching 32 = .ok (.iload_n 2, 1) := by decide +kernel
theorem dX13_catching_33 : decode cX13_catching 33 = .ok (.ifCond .ne 7, 3) := by decide +kernel
theorem dX13_catching_40 : decode cX13_catching 40 = .ok (.aload_n 0, 1) := by decide +kernel
theorem dX13_catching_41 : decode cX13_catching 41 = .ok (.getfield 581, 3) := by decide +kernel
theorem dX13_catching_44 : decode cX13_catching 44 = .ok (.ireturn, 1) := by decide +kernel
theorem dX13_catching_36 : decode cX13_catching 36 = .ok (.iload_n 3, 1) := by decide +kernel
theorem dX13_catching_37 : decode cX13_catching 37 = .ok (.goto 7, 3) := by decide +kernel
set_option maxHeartbeats 4000000 in
set_option maxRecDepth 100000 in
theorem k_X13_catching (l : Launch) (D : va_G) (cy : Nat → ClassId) (ld ad : Nat → Nat) (am : Nat) (hD : mz_D ad am) (Fa : Nat → Int32) (Ga : Nat → Int64) (Ra : Nat → Nat → Int32) (Sa : Nat → Nat → Int64) (p1 : Int32) (p2 : Int32) (hIF : mz_IF true Fa) (hIG : mz_IG Ga) (hIR : mz_IR [] true Ra) : Met l yX13_catching (wl yX13_catching cX13_catching 4 (some .int)) ({ frames := 5, cells := 0, slots := 0, locals := 280 }) (mz_p D cy ld ad am Fa Ga Ra Sa [.ref am, .int p1, .int p2]) (mz_i D cy ad am (fun r F G R S => mz_IF true F ∧ mz_IG G ∧ mz_IR [] true R ∧ (∀ k : Nat, k ∉ ([0, 60] : List Nat) → F k = Fa k) ∧ (∀ k : Nat, k ∉ ([] : List Nat) → R k = Ra k) ∧ (∀ k : Nat, k ∉ ([] : List Nat) → G k = Ga k))) 0 0 (mz_W ad am) := by
  refine mz_met (y := yX13_catching) (cc := cX13_catching) (maxL := 4) (ret := (some .int)) (av := [.ref am, .int p1, .int p2]) _ (by decide) (Nat.le_of_ble_eq_true rfl) ?_
  intro p e s m args below meth c hx hb hr hml hts htl hown hlocks hK H locs hM hS ls hl
  have hown : s.vm.findClass RX13 = some m.cls := hown
  have hl : lv_has ls 4 [(0, .ref am), (1, .int p1), (2, .int p2)] := hl
  have hr_p1 := tk_rng p1
  have hr_p2 := tk_rng p2
  refine lv_aload_n hx hb dX13_catching_0 rfl (lv_at hl 0 rfl) ?_
  refine lv_iconst (v := 0) hx hb dX13_catching_1 (by decide) ?_
  have hk_0 : (0 : Int32).toInt = 0 := by decide
  refine mz_putI (ty := .int) (x := 0) hx hb htl hown hK hD hM hS 0 (Nat.le_of_ble_eq_true rfl) rfl (htl _ mw_286) (fun _ h9 => h9) rfl (tyX13_ok 0 (by decide)) rfl rfl dX13_catching_2 (fun H locs F hM hS hf9 hj9 => ?_)
  have hIF := hIF.put hf9 hj9 (tk_rng _).1 (tk_rng _).2 (by decide)
  have hFF := mz_frp (K := [0, 60]) (Fa := Fa) hj9 (fun _ _ => rfl) (by decide)
  have hf2 := hf9
  refine lv_aload_n hx hb dX13_catching_5 rfl (lv_at hl 0 rfl) ?_
  refine lv_iload_n hx hb dX13_catching_6 rfl (lv_at hl 1 rfl) ?_
  refine mz_Vj (As := [.int p1]) (rest := []) ⟨hx, hb, hml, hown, hts⟩ hK hM hS (k_X13_isSinger l D cy ld ad am hD _ _ _ _ p1 (hIF.weak) hIG hIR) ⟨callB_of 1 hts (wl_in mw_320) rfl rfl rfl (htl _ mw_5) (htl _ mw_317) hd_yX13_isSinger ⟨(Nat.le_of_ble_eq_true rfl), (Nat.le_of_ble_eq_true rfl)⟩, htl _ mw_318, htl _ mw_319⟩ rfl hl.1 rfl (Nat.le_of_ble_eq_true rfl) dX13_catching_7 ⟨(Nat.le_of_ble_eq_true rfl), (Nat.le_of_ble_eq_true rfl)⟩ (fun v3 H locs hpo hM hS => ?_)
  obtain ⟨hpo4, hpo5, hpo6, hpo10, hpo11⟩ := hpo
  have hq_v3 := tk_rng v3
  refine lv_if_eq (tgt := 23) hx hb dX13_catching_10 (by decide) (fun c9 => ?_) (fun c9 => ?_)
  · have hc13 : v3.toInt = 0 := (fi_eq rfl (show (0 : Int32).toInt = 0 by decide)).mp c9
    refine lv_iconst (v := (-1)) hx hb dX13_catching_23 (by decide) ?_
    have hk_m1 : ((-1) : Int32).toInt = (-1) := by decide
    exact mz_iret (v := (-1)) hx hb hr rfl hlocks ⟨hIF, hIG, hIR, hFF, (fun _ _ => rfl), (fun _ _ => rfl)⟩ hM hS dX13_catching_24
  · have hc13 : ¬ (v3.toInt = 0) := fun h9 => c9 ((fi_eq rfl (show (0 : Int32).toInt = 0 by decide)).mpr h9)
    have hwk_14 : 0 ≤ p1.toInt ∧ p1.toInt ≤ 7 := by omega
    refine lv_iload_n hx hb dX13_catching_13 rfl (lv_at hl 2 rfl) ?_
    obtain ⟨w15, e_w15, h_w15⟩ : ∃ z : Int64, p2.toInt64 = z ∧ z.toInt = p2.toInt := ⟨_, rfl, fl_w _⟩
    refine lv_i2l (v := w15) hx hb dX13_catching_14 e_w15 ?_
    refine lv_lconst (v := 0) hx hb dX13_catching_15 (by decide) ?_
    refine lv_lconst (v := 1) hx hb dX13_catching_16 (by decide) ?_
    have hk_0 : (0 : Int64).toInt = 0 := by decide
    have hk_1 : (1 : Int64).toInt = 1 := by decide
    refine mz_Sj (As := [.long w15, .long 0, .long 1]) (rest := []) ⟨hx, hb, hml, hown, hts⟩ hK hM hS (k_X13_in l D cy ld ad am hD _ _ _ _ w15 0 1) ⟨callB_of 3 hts (wl_in mw_292) rfl rfl rfl (htl _ mw_5) (htl _ mw_290) hd_yX13_in ⟨(Nat.le_of_ble_eq_true rfl), (Nat.le_of_ble_eq_true rfl)⟩, htl _ mw_291⟩ rfl hl.1 rfl (Nat.le_of_ble_eq_true rfl) dX13_catching_17 ⟨(Nat.le_of_ble_eq_true rfl), (Nat.le_of_ble_eq_true rfl)⟩ (fun v16 H locs hpo hM hS => ?_)
    obtain ⟨hpo17, hpo18, hpo19, hpo20, hpo21, hpo22⟩ := hpo
    have hq_v16 := tk_rng v16
    refine lv_if_ne (tgt := 25) hx hb dX13_catching_20 (by decide) (fun c9 => ?_) (fun c9 => ?_)
    · have hc24 : ¬ (v16.toInt = 0) := fun h9 => c9 ((fi_eq rfl (show (0 : Int32).toInt = 0 by decide)).mpr h9)
      have hwk_25 : 0 ≤ w15.toInt ∧ w15.toInt ≤ 1 := by omega
      refine lv_aload_n hx hb dX13_catching_25 rfl (lv_at hl 0 rfl) ?_
      refine lv_iload_n hx hb dX13_catching_26 rfl (lv_at hl 1 rfl) ?_
      refine lv_iconst (v := 0) hx hb dX13_catching_27 (by decide) ?_
      have hk_0 : (0 : Int32).toInt = 0 := by decide
      refine mz_Vi (As := [.int p1, .int 0]) (rest := []) ⟨hx, hb, hml, hown, hts⟩ hK hM hS (k_X13_caught l D cy ld ad am hD _ _ _ _ p1 0 hIF hIG hIR (by omega) (by omega)) ⟨callB_of 2 hts (wl_in mw_1599) rfl rfl rfl (htl _ mw_5) (htl _ mw_1596) hd_yX13_caught ⟨(Nat.le_of_ble_eq_true rfl), (Nat.le_of_ble_eq_true rfl)⟩, htl _ mw_1597, htl _ mw_1598⟩ rfl hl.1 rfl (Nat.le_of_ble_eq_true rfl) dX13_catching_28 ⟨(Nat.le_of_ble_eq_true rfl), (Nat.le_of_ble_eq_true rfl)⟩ (fun v26 H locs F G R S hpo hM hS => ?_)
      obtain ⟨hIF, hIG, hIR, hfr9, hrr9, hgr9, hpo27, hpo28⟩ := hpo
      have hq_v26 := tk_rng v26
      have hFF := mz_fr (K := [0, 60]) (Fa := Fa) hfr9 hFF (by decide)
      have hRR := mz_fr (K := []) (Fa := Ra) hrr9 (fun _ _ => rfl) (by decide)
      have hGG := mz_fr (K := []) (Fa := Ga) hgr9 (fun _ _ => rfl) (by decide)
      have hf2 := (hfr9 0 (by decide)).trans hf2
      refine lv_istore_n (lv' := [(3, .int v26), (0, .ref am), (1, .int p1), (2, .int p2)]) hx hb dX13_catching_31 rfl hl (by decide) rfl (fun ls hl => ?_)
      refine lv_iload_n hx hb dX13_catching_32 rfl (lv_at hl 3 rfl) ?_
      refine lv_if_ne (tgt := 40) hx hb dX13_catching_33 (by decide) (fun c9 => ?_) (fun c9 => ?_)
      · have hc30 : ¬ (p2.toInt = 0) := fun h9 => c9 ((fi_eq rfl (show (0 : Int32).toInt = 0 by decide)).mpr h9)
        refine lv_aload_n hx hb dX13_catching_40 rfl (lv_at hl 1 rfl) ?_
        refine mz_getI hx hb htl hown hK hM 60 (Nat.le_of_ble_eq_true rfl) rfl (htl _ mw_1595) (fun _ h9 => h9) dX13_catching_41 (fun v32 hf31 => ?_)
        have hq_v32 := tk_rng v32
        exact mz_iret (v := v32) hx hb hr rfl hlocks ⟨hIF, hIG, hIR, hFF, hRR, hGG⟩ hM hS dX13_catching_44
      · have hc30 : p2.toInt = 0 := (fi_eq rfl (show (0 : Int32).toInt = 0 by decide)).mp c9
        refine lv_iload_n hx hb dX13_catching_36 rfl (lv_at hl 0 rfl) ?_
        refine lv_goto (tgt := 44) hx hb dX13_catching_37 (by decide) ?_
        exact mz_iret (v := v26) hx hb hr rfl hlocks ⟨hIF, hIG, hIR, hFF, hRR, hGG⟩ hM hS dX13_catching_44
    · have hc24 : v16.toInt = 0 := (fi_eq rfl (show (0 : Int32).toInt = 0 by decide)).mp c9
      refine lv_iconst (v := (-1)) hx hb dX13_catching_23 (by decide) ?_
      have hk_m1 : ((-1) : Int32).toInt = (-1) := by decide
      exact mz_iret (v := (-1)) hx hb hr rfl hlocks ⟨hIF, hIG, hIR, hFF, (fun _ _ => rfl), (fun _ _ => rfl)⟩ hM hS dX13_catching_24
end
section
theorem hd_yX13_ones : yX13_ones.cls ≠ "java/lang/invoke/MethodHandle" ∧ yX13_ones.cls ≠ "java/lang/invoke/VarHandle" ∧ (parseMethodDescriptor yX13_ones.desc).map (fun d => d.parameters.length) = some 1 := by decide +kernel
theorem dX13_keep_0 : decode cX13_keep 0 = .ok (.aload_n 0, 1) := by decide +kernel
theorem dX13_keep_1 : decode cX13_keep 1 = .ok (.iconst 0, 1) := by decide +kernel
theorem dX13_keep_2 : decode cX13_keep 2 = .ok (.putfield 170, 3) := by decide +kernel
theorem dX13_keep_5 : decode cX13_keep 5 = .ok (.aload_n 0, 1) := by decide +kernel
theorem dX13_keep_6 : decode cX13_keep 6 = .ok (.iload_n 1, 1) := by decide +kernel
theorem dX13_keep_7 : decode cX13_keep 7 = .ok (.invokevirtual 201, 3) := by decide +kernel
theorem dX13_keep_10 : decode cX13_keep 10 = .ok (.ifCond .eq 26, 3) := by decide +kernel
theorem dX13_keep_36 : decode cX13_keep 36 = .ok (.iconst (-1), 1) := by decide +kernel
theorem dX13_keep_37 : decode cX13_keep 37 = .ok (.ireturn, 1) := by decide +kernel
theorem dX13_keep_13 : decode cX13_keep 13 = .ok (.aload_n 0, 1) := by decide +kernel
theorem dX13_keep_14 : decode cX13_keep 14 = .ok (.iload_n 2, 1) := by decide +kernel
theorem dX13_keep_15 : decode cX13_keep 15 = .ok (.invokevirtual 201, 3) := by decide +kernel
theorem dX13_keep_18 : decode cX13_keep 18 = .ok (.ifCond .eq 18, 3) := by decide +kernel
theorem dX13_keep_21 : decode cX13_keep 21 = .ok (.iload_n 1, 1) := by decide +kernel
theorem dX13_keep_22 : decode cX13_keep 22 = .ok (.iload_n 2, 1) := by decide +kernel
theorem dX13_keep_23 : decode cX13_keep 23 = .ok (.if_icmp .eq 13, 3) := by decide +kernel
theorem dX13_keep_26 : decode cX13_keep 26 = .ok (.iload_n 3, 1) := by decide +kernel
theorem dX13_keep_27 : decode cX13_keep 27 = .ok (.i2l, 1) := by decide +kernel
theorem dX13_keep_28 : decode cX13_keep 28 = .ok (.lconst 0, 1) := by decide +kernel
theorem dX13_keep_29 : decode cX13_keep 29 = .ok (.lconst 1, 1) := by decide +kernel
theorem dX13_keep_30 : decode cX13_keep 30 = .ok (.invokestatic 190, 3) := by decide +kernel
theorem dX13_keep_33 : decode cX13_keep 33 = .ok (.ifCond .ne 5, 3) := by decide +kernel
theorem dX13_keep_38 : decode cX13_keep 38 = .ok (.ldc_w 574, 3) := by decide +kernel
theorem dX13_keep_41 : decode cX13_keep 41 = .ok (.istore 4, 2) := by decide +kernel
theorem dX13_keep_43 : decode cX13_keep 43 = .ok (.iconst (-1), 1) := by decide +kernel
theorem dX13_keep_44 : decode cX13_keep 44 = .ok (.istore 5, 2) := by decide +kernel
theorem dX13_keep_46 : decode cX13_keep 46 = .ok (.iconst 0, 1) := by decide +kernel
theorem dX13_keep_47 : decode cX13_keep 47 = .ok (.istore 6, 2) := by decide +kernel
theorem dX13_keep_49 : decode cX13_keep 49 = .ok (.iload 6, 2) := by decide +kernel
theorem dX13_keep_51 : decode cX13_keep 51 = .ok (.iconst 1, 1) := by decide +kernel
theorem dX13_keep_52 : decode cX13_keep 52 = .ok (.aload_n 0, 1) := by decide +kernel
theorem dX13_keep_53 : decode cX13_keep 53 = .ok (.getfield 13, 3) := by decide +kernel
theorem dX13_keep_56 : decode cX13_keep 56 = .ok (.iconst 0, 1) := by decide +kernel
theorem dX13_keep_57 : decode cX13_keep 57 = .ok (.iaload, 1) := by decide +kernel
theorem dX13_keep_58 : decode cX13_keep 58 = .ok (.ishl, 1) := by decide +kernel
theorem dX13_keep_59 : decode cX13_keep 59 = .ok (.if_icmp .ge 62, 3) := by decide +kernel
theorem dX13_keep_121 : decode cX13_keep 121 = .ok (.iload 5, 2) := by decide +kernel
theorem dX13_keep_123 : decode cX13_keep 123 = .ok (.iconst (-1), 1) := by decide +kernel
theorem dX13_keep_124 : decode cX13_keep 124 = .ok (.if_icmp .ne 7, 3) := by decide +kernel
theorem dX13_keep_131 : decode cX13_keep 131 = .ok (.iload_n 3, 1) := by decide +kernel
theorem dX13_keep_132 : decode cX13_keep 132 = .ok (.ifCond .ne 8, 3) := by decide +kernel
theorem dX13_keep_140 : decode cX13_keep 140 = .ok (.iload 5, 2) := by decide +kernel
theorem dX13_keep_142 : decode cX13_keep 142 = .ok (.ireturn, 1) := by decide +kernel
theorem dX13_keep_135 : decode cX13_keep 135 = .ok (.iload 4, 2) := by decide +kernel
theorem dX13_keep_137 : decode cX13_keep 137 = .ok (.goto 5, 3) := by decide +kernel
theorem dX13_keep_127 : decode cX13_keep 127 = .ok (.iconst (-1), 1) := by decide +kernel
theorem dX13_keep_128 : decode cX13_keep 128 = .ok (.goto 14, 3) := by decide +kernel
theorem dX13_keep_62 : decode cX13_keep 62 = .ok (.iload 6, 2) := by decide +kernel
theorem dX13_keep_64 : decode cX13_keep 64 = .ok (.iload_n 1, 1) := by decide +kernel
theorem dX13_keep_65 : decode cX13_keep 65 = .ok (.invokestatic 584, 3) := by decide +kernel
theorem dX13_keep_115 : decode cX13_keep 115 = .ok (.iinc 6 1, 3) := by decide +kernel
theorem dX13_keep_118 : decode cX13_keep 118 = .ok (.goto (-69), 3) := by decide +kernel
theorem dX13_keep_68 : decode cX13_keep 68 = .ok (.ifCond .ne 47, 3) := by decide +kernel
theorem dX13_keep_71 : decode cX13_keep 71 = .ok (.iload 6, 2) := by decide +kernel
theorem dX13_keep_73 : decode cX13_keep 73 = .ok (.iload_n 2, 1) := by decide +kernel
theorem dX13_keep_74 : decode cX13_keep 74 = .ok (.invokestatic 584, 3) := by decide +kernel
theorem dX13_keep_77 : decode cX13_keep 77 = .ok (.ifCond .ne 38, 3) := by decide +kernel
theorem dX13_keep_80 : decode cX13_keep 80 = .ok (.iload 6, 2) := by decide +kernel
theorem dX13_keep_82 : decode cX13_keep 82 = .ok (.invokestatic 590, 3) := by decide +kernel
theorem dX13_keep_85 : decode cX13_keep 85 = .ok (.iload 4, 2) := by decide +kernel
theorem dX13_keep_87 : decode cX13_keep 87 = .ok (.if_icmp .ge 28, 3) := by decide +kernel
theorem dX13_keep_90 : decode cX13_keep 90 = .ok (.aload_n 0, 1) := by decide +kernel
theorem dX13_keep_91 : decode cX13_keep 91 = .ok (.iload_n 2, 1) := by decide +kernel
theorem dX13_keep_92 : decode cX13_keep 92 = .ok (.iload 6, 2) := by decide +kernel
theorem dX13_keep_94 : decode cX13_keep 94 = .ok (.invokevirtual 587, 3) := by decide +kernel
theorem dX13_keep_97 : decode cX13_keep 97 = .ok (.iload_n 1, 1) := by decide +kernel
theorem dX13_keep_98 : decode cX13_keep 98 = .ok (.invokestatic 584, 3) := by decide +kernel
theorem dX13_keep_101 : decode cX13_keep 101 = .ok (.ifCond .ne 14, 3) := by decide +kernel
theorem dX13_keep_104 : decode cX13_keep 104 = .ok (.iload 6, 2) := by decide +kernel
theorem dX13_keep_106 : decode cX13_keep 106 = .ok (.invokestatic 590, 3) := by decide +kernel
theorem dX13_keep_109 : decode cX13_keep 109 = .ok (.istore 4, 2) := by decide +kernel
theorem dX13_keep_111 : decode cX13_keep 111 = .ok (.iload 6, 2) := by decide +kernel
theorem dX13_keep_113 : decode cX13_keep 113 = .ok (.istore 5, 2) := by decide +kernel
set_option maxHeartbeats 4000000 in
set_option maxRecDepth 100000 in
theorem k_X13_keep (l : Launch) (D : va_G) (cy : Nat → ClassId) (ld ad : Nat → Nat) (am : Nat) (hD : mz_D ad am) (Fa : Nat → Int32) (Ga : Nat → Int64) (Ra : Nat → Nat → Int32) (Sa : Nat → Nat → Int64) (p1 : Int32) (p2 : Int32) (p3 : Int32) (hIF : mz_IF true Fa) (hIG : mz_IG Ga) (hIR : mz_IR [] true Ra) : Met l yX13_keep (wl yX13_keep cX13_keep 7 (some .int)) ({ frames := 5, cells := 0, slots := 0, locals := 280 }) (mz_p D cy ld ad am Fa Ga Ra Sa [.ref am, .int p1, .int p2, .int p3]) (mz_i D cy ad am (fun r F G R S => mz_IF true F ∧ mz_IG G ∧ mz_IR [] true R ∧ (∀ k : Nat, k ∉ ([0, 60] : List Nat) → F k = Fa k) ∧ (∀ k : Nat, k ∉ ([] : List Nat) → R k = Ra k) ∧ (∀ k : Nat, k ∉ ([] : List Nat) → G k = Ga k) ∧ (-1000000000) ≤ r.toInt ∧ r.toInt ≤ 1000000000)) 0 0 (mz_W ad am) := by
  refine mz_met (y := yX13_keep) (cc := cX13_keep) (maxL := 7) (ret := (some .int)) (av := [.ref am, .int p1, .int p2, .int p3]) _ (by decide) (Nat.le_of_ble_eq_true rfl) ?_
  intro p e s m args below meth c hx hb hr hml hts htl hown hlocks hK H locs hM hS ls hl
  have hown : s.vm.findClass RX13 = some m.cls := hown
  have hl : lv_has ls 7 [(0, .ref am), (1, .int p1), (2, .int p2), (3, .int p3)] := hl
  have hr_p1 := tk_rng p1
  have hr_p2 := tk_rng p2
  have hr_p3 := tk_rng p3
  refine lv_aload_n hx hb dX13_keep_0 rfl (lv_at hl 0 rfl) ?_
  refine lv_iconst (v := 0) hx hb dX13_keep_1 (by decide) ?_
  have hk_0 : (0 : Int32).toInt = 0 := by decide
  refine mz_putI (ty := .int) (x := 0) hx hb htl hown hK hD hM hS 0 (Nat.le_of_ble_eq_true rfl) rfl (htl _ mw_286) (fun _ h9 => h9) rfl (tyX13_ok 0 (by decide)) rfl rfl dX13_keep_2 (fun H locs F hM hS hf9 hj9 => ?_)
  have hIF := hIF.put hf9 hj9 (tk_rng _).1 (tk_rng _).2 (by decide)
  have hFF := mz_frp (K := [0, 60]) (Fa := Fa) hj9 (fun _ _ => rfl) (by decide)
  have hf2 := hf9
  refine lv_aload_n hx hb dX13_keep_5 rfl (lv_at hl 0 rfl) ?_
  refine lv_iload_n hx hb dX13_keep_6 rfl (lv_at hl 1 rfl) ?_
  refine mz_Vj (As := [.int p1]) (rest := []) ⟨hx, hb, hml, hown, hts⟩ hK hM hS (k_X13_isSinger l D cy ld ad am hD _ _ _ _ p1 (hIF.weak) hIG hIR) ⟨callB_of 1 hts (wl_in mw_320) rfl rfl rfl (htl _ mw_5) (htl _ mw_317) hd_yX13_isSinger ⟨(Nat.le_of_ble_eq_true rfl), (Nat.le_of_ble_eq_true rfl)⟩, htl _ mw_318, htl _ mw_319⟩ rfl hl.1 rfl (Nat.le_of_ble_eq_true rfl) dX13_keep_7 ⟨(Nat.le_of_ble_eq_true rfl), (Nat.le_of_ble_eq_true rfl)⟩ (fun v3 H locs hpo hM hS => ?_)
  obtain ⟨hpo4, hpo5, hpo6, hpo10, hpo11⟩ := hpo
  have hq_v3 := tk_rng v3
  refine lv_if_eq (tgt := 36) hx hb dX13_keep_10 (by decide) (fun c9 => ?_) (fun c9 => ?_)
  · have hc13 : v3.toInt = 0 := (fi_eq rfl (show (0 : Int32).toInt = 0 by decide)).mp c9
    refine lv_iconst (v := (-1)) hx hb dX13_keep_36 (by decide) ?_
    have hk_m1 : ((-1) : Int32).toInt = (-1) := by decide
    exact mz_iret (v := (-1)) hx hb hr rfl hlocks ⟨hIF, hIG, hIR, hFF, (fun _ _ => rfl), (fun _ _ => rfl), (by omega), (by omega)⟩ hM hS dX13_keep_37
  · have hc13 : ¬ (v3.toInt = 0) := fun h9 => c9 ((fi_eq rfl (show (0 : Int32).toInt = 0 by decide)).mpr h9)
    have hwk_14 : 0 ≤ p1.toInt ∧ p1.toInt ≤ 7 := by omega
    refine lv_aload_n hx hb dX13_keep_13 rfl (lv_at hl 0 rfl) ?_
    refine lv_iload_n hx hb dX13_keep_14 rfl (lv_at hl 2 rfl) ?_
    refine mz_Vj (As := [.int p2]) (rest := []) ⟨hx, hb, hml, hown, hts⟩ hK hM hS (k_X13_isSinger l D cy ld ad am hD _ _ _ _ p2 (hIF.weak) hIG hIR) ⟨callB_of 1 hts (wl_in mw_320) rfl rfl rfl (htl _ mw_5) (htl _ mw_317) hd_yX13_isSinger ⟨(Nat.le_of_ble_eq_true rfl), (Nat.le_of_ble_eq_true rfl)⟩, htl _ mw_318, htl _ mw_319⟩ rfl hl.1 rfl (Nat.le_of_ble_eq_true rfl) dX13_keep_15 ⟨(Nat.le_of_ble_eq_true rfl), (Nat.le_of_ble_eq_true rfl)⟩ (fun v15 H locs hpo hM hS => ?_)
    obtain ⟨hpo16, hpo17, hpo18, hpo19, hpo20⟩ := hpo
    have hq_v15 := tk_rng v15
    refine lv_if_eq (tgt := 36) hx hb dX13_keep_18 (by decide) (fun c9 => ?_) (fun c9 => ?_)
    · have hc22 : v15.toInt = 0 := (fi_eq rfl (show (0 : Int32).toInt = 0 by decide)).mp c9
      refine lv_iconst (v := (-1)) hx hb dX13_keep_36 (by decide) ?_
      have hk_m1 : ((-1) : Int32).toInt = (-1) := by decide
      exact mz_iret (v := (-1)) hx hb hr rfl hlocks ⟨hIF, hIG, hIR, hFF, (fun _ _ => rfl), (fun _ _ => rfl), (by omega), (by omega)⟩ hM hS dX13_keep_37
    · have hc22 : ¬ (v15.toInt = 0) := fun h9 => c9 ((fi_eq rfl (show (0 : Int32).toInt = 0 by decide)).mpr h9)
      have hwk_23 : 0 ≤ p2.toInt ∧ p2.toInt ≤ 7 := by omega
      refine lv_iload_n hx hb dX13_keep_21 rfl (lv_at hl 1 rfl) ?_
      refine lv_iload_n hx hb dX13_keep_22 rfl (lv_at hl 2 rfl) ?_
      refine lv_icmp_eq (tgt := 36) hx hb dX13_keep_23 (by decide) (fun c9 => ?_) (fun c9 => ?_)
      · have hc24 : p1.toInt = p2.toInt := (fi_eq rfl rfl).mp c9
        refine lv_iconst (v := (-1)) hx hb dX13_keep_36 (by decide) ?_
        have hk_m1 : ((-1) : Int32).toInt = (-1) := by decide
        exact mz_iret (v := (-1)) hx hb hr rfl hlocks ⟨hIF, hIG, hIR, hFF, (fun _ _ => rfl), (fun _ _ => rfl), (by omega), (by omega)⟩ hM hS dX13_keep_37
      · have hc24 : ¬ (p1.toInt = p2.toInt) := fun h9 => c9 ((fi_eq rfl rfl).mpr h9)
        refine lv_iload_n hx hb dX13_keep_26 rfl (lv_at hl 3 rfl) ?_
        obtain ⟨w25, e_w25, h_w25⟩ : ∃ z : Int64, p3.toInt64 = z ∧ z.toInt = p3.toInt := ⟨_, rfl, fl_w _⟩
        refine lv_i2l (v := w25) hx hb dX13_keep_27 e_w25 ?_
        refine lv_lconst (v := 0) hx hb dX13_keep_28 (by decide) ?_
        refine lv_lconst (v := 1) hx hb dX13_keep_29 (by decide) ?_
        have hk_0 : (0 : Int64).toInt = 0 := by decide
        have hk_1 : (1 : Int64).toInt = 1 := by decide
        refine mz_Sj (As := [.long w25, .long 0, .long 1]) (rest := []) ⟨hx, hb, hml, hown, hts⟩ hK hM hS (k_X13_in l D cy ld ad am hD _ _ _ _ w25 0 1) ⟨callB_of 3 hts (wl_in mw_292) rfl rfl rfl (htl _ mw_5) (htl _ mw_290) hd_yX13_in ⟨(Nat.le_of_ble_eq_true rfl), (Nat.le_of_ble_eq_true rfl)⟩, htl _ mw_291⟩ rfl hl.1 rfl (Nat.le_of_ble_eq_true rfl) dX13_keep_30 ⟨(Nat.le_of_ble_eq_true rfl), (Nat.le_of_ble_eq_true rfl)⟩ (fun v26 H locs hpo hM hS => ?_)
        obtain ⟨hpo27, hpo28, hpo29, hpo30, hpo31, hpo32⟩ := hpo
        have hq_v26 := tk_rng v26
        refine lv_if_ne (tgt := 38) hx hb dX13_keep_33 (by decide) (fun c9 => ?_) (fun c9 => ?_)
        · have hc34 : ¬ (v26.toInt = 0) := fun h9 => c9 ((fi_eq rfl (show (0 : Int32).toInt = 0 by decide)).mpr h9)
          have hwk_35 : 0 ≤ w25.toInt ∧ w25.toInt ≤ 1 := by omega
          refine lv_ldcw hx hb hown (htl _ mw_1570) dX13_keep_38 ?_
          refine lv_istore (lv' := [(4, .int 100000000), (0, .ref am), (1, .int p1), (2, .int p2), (3, .int p3)]) hx hb dX13_keep_41 hl (by decide) rfl (fun ls hl => ?_)
          refine lv_iconst (v := (-1)) hx hb dX13_keep_43 (by decide) ?_
          refine lv_istore (lv' := [(5, .int (-1)), (4, .int 100000000), (0, .ref am), (1, .int p1), (2, .int p2), (3, .int p3)]) hx hb dX13_keep_44 hl (by decide) rfl (fun ls hl => ?_)
          refine lv_iconst (v := 0) hx hb dX13_keep_46 (by decide) ?_
          refine lv_istore (lv' := [(6, .int 0), (5, .int (-1)), (4, .int 100000000), (0, .ref am), (1, .int p1), (2, .int p2), (3, .int p3)]) hx hb dX13_keep_47 hl (by decide) rfl (fun ls hl => ?_)
          have hl1698 : ∀ (N_l1698 : Nat) (v184 : Int32) (v185 : Int32) (v186 : Int32) (H : Heap) (locs : List Loc) (F : Nat → Int32) (G : Nat → Int64) (R : Nat → Nat → Int32) (S : Nat → Nat → Int64), (v184.toInt ≤ 1099) → ((-1) ≤ v185.toInt) → (0 ≤ v184.toInt + (-1) * v185.toInt + (-1)) → (v186.toInt ≤ 1000000000) → ((-1000000000) ≤ v186.toInt) → (mz_S D cy ad am F G R S H) → (va_S (mz_W ad am) s.heap H locs) → (mz_IF true F) → (mz_IG G) → (mz_IR [] true R) → (∀ k : Nat, k ∉ ([0, 60] : List Nat) → F k = Fa k) → (∀ k : Nat, k ∉ ([] : List Nat) → G k = Ga k) → (∀ k : Nat, k ∉ ([] : List Nat) → R k = Ra k) → (F 0 = 0) → ((-1) * v184.toInt + 1099 < (N_l1698 : Int)) → ∀ ls : Array Slot, lv_has ls 7 [(6, .int v184), (5, .int v185), (4, .int v186), (0, .ref am), (1, .int p1), (2, .int p2), (3, .int p3)] → W p l e ({ frames := 5, cells := 0, slots := 0, locals := 280 }) s m args below meth c H locs 0 0 (MQ below (mz_i D cy ad am (fun r F G R S => mz_IF true F ∧ mz_IG G ∧ mz_IR [] true R ∧ (∀ k : Nat, k ∉ ([0, 60] : List Nat) → F k = Fa k) ∧ (∀ k : Nat, k ∉ ([] : List Nat) → R k = Ra k) ∧ (∀ k : Nat, k ∉ ([] : List Nat) → G k = Ga k) ∧ (-1000000000) ≤ r.toInt ∧ r.toInt ≤ 1000000000)) args s 0 0 (mz_W ad am)) (F0 m 49 ls []) := by
            intro N_l1698
            induction N_l1698 with
            | zero => intro v184 v185 v186 H locs F G R S hq0_l1698 hq1_l1698 hq2_l1698 hq3_l1698 hq4_l1698 hM hS hIF hIG hIR hFF hGG hRR hf2 hm_l1698 ls hl; exfalso; omega
            | succ N_l1698 ih_l1698 =>
              intro v184 v185 v186 H locs F G R S hq0_l1698 hq1_l1698 hq2_l1698 hq3_l1698 hq4_l1698 hM hS hIF hIG hIR hFF hGG hRR hf2 hm_l1698 ls hl
              refine lv_iload hx hb dX13_keep_49 (lv_at hl 0 rfl) ?_
              refine lv_iconst (v := 1) hx hb dX13_keep_51 (by decide) ?_
              refine lv_aload_n hx hb dX13_keep_52 rfl (lv_at hl 3 rfl) ?_
              refine mz_getR hx hb htl hown hK hM 3 (Nat.le_of_ble_eq_true rfl) (Nat.le_of_ble_eq_true rfl) (htl _ mw_188) (fun _ h9 => h9) dX13_keep_53 ?_
              refine lv_iconst (v := 0) hx hb dX13_keep_56 (by decide) ?_
              refine mz_iald hx hb hK hM 3 (Nat.le_of_ble_eq_true rfl) rfl (nn := 5560) rfl (I := 0) (by decide) (by decide) (by decide) dX13_keep_57 (fun v1700 hf1699 => ?_)
              have hf1699 : R 3 0 = v1700 := hf1699
              have hq_v1700 := tk_rng v1700
              have hr_v1700 : 0 ≤ v1700.toInt ∧ v1700.toInt ≤ 8 := by have h9 := mz_r3c 0 (hIR.at 3) hf1699 (by decide); unfold mE at h9; omega
              have hk_1 : (1 : Int32).toInt = 1 := by decide
              refine lv_ishl hx hb dX13_keep_58 ?_
              refine tk_say (P := fun z => 1 ≤ z.toInt ∧ z.toInt ≤ 1024) (tk_shl1 v1700 (by omega) (by omega)) (fun v1701 h_v1701 => ?_)
              refine lv_icmp_ge (tgt := 121) hx hb dX13_keep_59 (by decide) (fun c9 => ?_) (fun c9 => ?_)
              · have hc1702 : v1701.toInt ≤ v184.toInt := (fi_le rfl rfl).mp c9
                refine lv_iload hx hb dX13_keep_121 (lv_at hl 1 rfl) ?_
                refine lv_iconst (v := (-1)) hx hb dX13_keep_123 (by decide) ?_
                refine lv_icmp_ne (tgt := 131) hx hb dX13_keep_124 (by decide) (fun c9 => ?_) (fun c9 => ?_)
                · have hc1772 : ¬ (v185.toInt = (-1)) := fun h9 => c9 ((fi_eq rfl (show ((-1) : Int32).toInt = (-1) by decide)).mpr h9)
                  refine lv_iload_n hx hb dX13_keep_131 rfl (lv_at hl 6 rfl) ?_
                  refine lv_if_ne (tgt := 140) hx hb dX13_keep_132 (by decide) (fun c9 => ?_) (fun c9 => ?_)
                  · have hc1773 : ¬ (p3.toInt = 0) := fun h9 => c9 ((fi_eq rfl (show (0 : Int32).toInt = 0 by decide)).mpr h9)
                    refine lv_iload hx hb dX13_keep_140 (lv_at hl 1 rfl) ?_
                    exact mz_iret (v := v185) hx hb hr rfl hlocks ⟨hIF, hIG, hIR, hFF, hRR, hGG, (by omega), (by omega)⟩ hM hS dX13_keep_142
                  · have hc1773 : p3.toInt = 0 := (fi_eq rfl (show (0 : Int32).toInt = 0 by decide)).mp c9
                    refine lv_iload hx hb dX13_keep_135 (lv_at hl 2 rfl) ?_
                    refine lv_goto (tgt := 142) hx hb dX13_keep_137 (by decide) ?_
                    exact mz_iret (v := v186) hx hb hr rfl hlocks ⟨hIF, hIG, hIR, hFF, hRR, hGG, (by omega), (by omega)⟩ hM hS dX13_keep_142
                · have hc1772 : v185.toInt = (-1) := (fi_eq rfl (show ((-1) : Int32).toInt = (-1) by decide)).mp c9
                  refine lv_iconst (v := (-1)) hx hb dX13_keep_127 (by decide) ?_
                  refine lv_goto (tgt := 142) hx hb dX13_keep_128 (by decide) ?_
                  have hk_m1 : ((-1) : Int32).toInt = (-1) := by decide
                  exact mz_iret (v := (-1)) hx hb hr rfl hlocks ⟨hIF, hIG, hIR, hFF, hRR, hGG, (by omega), (by omega)⟩ hM hS dX13_keep_142
              · have hc1702 : ¬ (v1701.toInt ≤ v184.toInt) := fun h9 => c9 ((fi_le rfl rfl).mpr h9)
                refine lv_iload hx hb dX13_keep_62 (lv_at hl 0 rfl) ?_
                refine lv_iload_n hx hb dX13_keep_64 rfl (lv_at hl 4 rfl) ?_
                refine mz_Sj (As := [.int v184, .int p1]) (rest := []) ⟨hx, hb, hml, hown, hts⟩ hK hM hS (k_X13_is l D cy ld ad am hD _ _ _ _ v184 p1) ⟨callB_of 2 hts (wl_in mw_1602) rfl rfl rfl (htl _ mw_5) (htl _ mw_1600) hd_yX13_is ⟨(Nat.le_of_ble_eq_true rfl), (Nat.le_of_ble_eq_true rfl)⟩, htl _ mw_1601⟩ rfl hl.1 rfl (Nat.le_of_ble_eq_true rfl) dX13_keep_65 ⟨(Nat.le_of_ble_eq_true rfl), (Nat.le_of_ble_eq_true rfl)⟩ (fun v1774 H locs hpo hM hS => ?_)
                obtain ⟨hpo1775, hpo1776, hpo1777, hpo1778⟩ := hpo
                have hq_v1774 := tk_rng v1774
                have hj1814 : ∀ (v1811 : Int32) (v1812 : Int32) (H : Heap) (locs : List Loc) (F : Nat → Int32) (G : Nat → Int64) (R : Nat → Nat → Int32) (S : Nat → Nat → Int64), ((-1000000000) ≤ v1812.toInt) → (v1812.toInt ≤ 1000000000) → (0 ≤ (-1) * v1811.toInt + v184.toInt) → (0 ≤ v1811.toInt + (-1) * v185.toInt) → (mz_S D cy ad am F G R S H) → (va_S (mz_W ad am) s.heap H locs) → (mz_IF true F) → (mz_IG G) → (mz_IR [] true R) → (∀ k : Nat, k ∉ ([0, 60] : List Nat) → F k = Fa k) → (∀ k : Nat, k ∉ ([] : List Nat) → G k = Ga k) → (∀ k : Nat, k ∉ ([] : List Nat) → R k = Ra k) → (F 0 = 0) → (R 3 0 = v1700) → ∀ ls : Array Slot, lv_has ls 7 [(6, .int v184), (5, .int v1811), (4, .int v1812), (0, .ref am), (1, .int p1), (2, .int p2), (3, .int p3)] → W p l e ({ frames := 5, cells := 0, slots := 0, locals := 280 }) s m args below meth c H locs 0 0 (MQ below (mz_i D cy ad am (fun r F G R S => mz_IF true F ∧ mz_IG G ∧ mz_IR [] true R ∧ (∀ k : Nat, k ∉ ([0, 60] : List Nat) → F k = Fa k) ∧ (∀ k : Nat, k ∉ ([] : List Nat) → R k = Ra k) ∧ (∀ k : Nat, k ∉ ([] : List Nat) → G k = Ga k) ∧ (-1000000000) ≤ r.toInt ∧ r.toInt ≤ 1000000000)) args s 0 0 (mz_W ad am)) (F0 m 115 ls []) := by
                  intro v1811 v1812 H locs F G R S hq0_j1814 hq1_j1814 hq2_j1814 hq3_j1814 hM hS hIF hIG hIR hFF hGG hRR hf2 hf1699 ls hl
                  obtain ⟨v1815, h_v1815, e_v1815⟩ := tk_inc v184 1 (by decide) (by omega) (by omega)
                  refine lv_iinc (v := v1815) (lv' := [(6, .int v1815), (5, .int v1811), (4, .int v1812), (0, .ref am), (1, .int p1), (2, .int p2), (3, .int p3)]) hx hb dX13_keep_115 hl (k := 0) rfl e_v1815 (by decide) rfl (fun ls hl => ?_)
                  refine lv_goto (tgt := 49) hx hb dX13_keep_118 (by decide) ?_
                  exact ih_l1698 v1815 v1811 v1812 _ _ _ _ _ _ (by omega) (by omega) (by omega) (by omega) (by omega) hM hS hIF hIG hIR hFF hGG hRR hf2 (by omega) _ (lv_sub hl [0, 1, 2, 3, 4, 5, 6] rfl)
                refine lv_if_ne (tgt := 115) hx hb dX13_keep_68 (by decide) (fun c9 => ?_) (fun c9 => ?_)
                · have hc1780 : ¬ (v1774.toInt = 0) := fun h9 => c9 ((fi_eq rfl (show (0 : Int32).toInt = 0 by decide)).mpr h9)
                  exact hj1814 v185 v186 _ _ _ _ _ _ (by omega) (by omega) (by omega) (by omega) hM hS hIF hIG hIR hFF hGG hRR hf2 hf1699 _ (lv_sub hl [0, 1, 2, 3, 4, 5, 6] rfl)
                · have hc1780 : v1774.toInt = 0 := (fi_eq rfl (show (0 : Int32).toInt = 0 by decide)).mp c9
                  refine lv_iload hx hb dX13_keep_71 (lv_at hl 0 rfl) ?_
                  refine lv_iload_n hx hb dX13_keep_73 rfl (lv_at hl 5 rfl) ?_
                  refine mz_Sj (As := [.int v184, .int p2]) (rest := []) ⟨hx, hb, hml, hown, hts⟩ hK hM hS (k_X13_is l D cy ld ad am hD _ _ _ _ v184 p2) ⟨callB_of 2 hts (wl_in mw_1602) rfl rfl rfl (htl _ mw_5) (htl _ mw_1600) hd_yX13_is ⟨(Nat.le_of_ble_eq_true rfl), (Nat.le_of_ble_eq_true rfl)⟩, htl _ mw_1601⟩ rfl hl.1 rfl (Nat.le_of_ble_eq_true rfl) dX13_keep_74 ⟨(Nat.le_of_ble_eq_true rfl), (Nat.le_of_ble_eq_true rfl)⟩ (fun v1816 H locs hpo hM hS => ?_)
                  obtain ⟨hpo1817, hpo1818, hpo1819, hpo1820⟩ := hpo
                  have hq_v1816 := tk_rng v1816
                  refine lv_if_ne (tgt := 115) hx hb dX13_keep_77 (by decide) (fun c9 => ?_) (fun c9 => ?_)
                  · have hc1822 : ¬ (v1816.toInt = 0) := fun h9 => c9 ((fi_eq rfl (show (0 : Int32).toInt = 0 by decide)).mpr h9)
                    exact hj1814 v185 v186 _ _ _ _ _ _ (by omega) (by omega) (by omega) (by omega) hM hS hIF hIG hIR hFF hGG hRR hf2 hf1699 _ (lv_sub hl [0, 1, 2, 3, 4, 5, 6] rfl)
                  · have hc1822 : v1816.toInt = 0 := (fi_eq rfl (show (0 : Int32).toInt = 0 by decide)).mp c9
                    refine lv_iload hx hb dX13_keep_80 (lv_at hl 0 rfl) ?_
                    refine mz_Sj (As := [.int v184]) (rest := []) ⟨hx, hb, hml, hown, hts⟩ hK hM hS (k_X13_ones l D cy ld ad am hD _ _ _ _ v184) ⟨callB_of 1 hts (wl_in mw_1626) rfl rfl rfl (htl _ mw_5) (htl _ mw_1624) hd_yX13_ones ⟨(Nat.le_of_ble_eq_true rfl), (Nat.le_of_ble_eq_true rfl)⟩, htl _ mw_1625⟩ rfl hl.1 rfl (Nat.le_of_ble_eq_true rfl) dX13_keep_82 ⟨(Nat.le_of_ble_eq_true rfl), (Nat.le_of_ble_eq_true rfl)⟩ (fun v1823 H locs hpo hM hS => ?_)
                    obtain ⟨hpo1824, hpo1825⟩ := hpo
                    have hq_v1823 := tk_rng v1823
                    refine lv_iload hx hb dX13_keep_85 (lv_at hl 2 rfl) ?_
                    refine lv_icmp_ge (tgt := 115) hx hb dX13_keep_87 (by decide) (fun c9 => ?_) (fun c9 => ?_)
                    · have hc1827 : v186.toInt ≤ v1823.toInt := (fi_le rfl rfl).mp c9
                      exact hj1814 v185 v186 _ _ _ _ _ _ (by omega) (by omega) (by omega) (by omega) hM hS hIF hIG hIR hFF hGG hRR hf2 hf1699 _ (lv_sub hl [0, 1, 2, 3, 4, 5, 6] rfl)
                    · have hc1827 : ¬ (v186.toInt ≤ v1823.toInt) := fun h9 => c9 ((fi_le rfl rfl).mpr h9)
                      refine lv_aload_n hx hb dX13_keep_90 rfl (lv_at hl 3 rfl) ?_
                      refine lv_iload_n hx hb dX13_keep_91 rfl (lv_at hl 5 rfl) ?_
                      refine lv_iload hx hb dX13_keep_92 (lv_at hl 0 rfl) ?_
                      refine mz_Vi (As := [.int p2, .int v184]) (rest := []) ⟨hx, hb, hml, hown, hts⟩ hK hM hS (k_X13_caught l D cy ld ad am hD _ _ _ _ p2 v184 hIF hIG hIR (by omega) (by omega)) ⟨callB_of 2 hts (wl_in mw_1599) rfl rfl rfl (htl _ mw_5) (htl _ mw_1596) hd_yX13_caught ⟨(Nat.le_of_ble_eq_true rfl), (Nat.le_of_ble_eq_true rfl)⟩, htl _ mw_1597, htl _ mw_1598⟩ rfl hl.1 rfl (Nat.le_of_ble_eq_true rfl) dX13_keep_94 ⟨(Nat.le_of_ble_eq_true rfl), (Nat.le_of_ble_eq_true rfl)⟩ (fun v1828 H locs F G R S hpo hM hS => ?_)
                      obtain ⟨hIF, hIG, hIR, hfr9, hrr9, hgr9, hpo1829, hpo1830⟩ := hpo
                      have hq_v1828 := tk_rng v1828
                      have hFF := mz_fr (K := [0, 60]) (Fa := Fa) hfr9 hFF (by decide)
                      have hRR := mz_fr (K := []) (Fa := Ra) hrr9 hRR (by decide)
                      have hGG := mz_fr (K := []) (Fa := Ga) hgr9 hGG (by decide)
                      have hf2 := (hfr9 0 (by decide)).trans hf2
                      have hf1699 : R 3 0 = _ := (congrFun (hrr9 3 (by decide)) 0).trans hf1699
                      refine lv_iload_n hx hb dX13_keep_97 rfl (lv_at hl 4 rfl) ?_
                      refine mz_Sj (As := [.int v1828, .int p1]) (rest := []) ⟨hx, hb, hml, hown, hts⟩ hK hM hS (k_X13_is l D cy ld ad am hD _ _ _ _ v1828 p1) ⟨callB_of 2 hts (wl_in mw_1602) rfl rfl rfl (htl _ mw_5) (htl _ mw_1600) hd_yX13_is ⟨(Nat.le_of_ble_eq_true rfl), (Nat.le_of_ble_eq_true rfl)⟩, htl _ mw_1601⟩ rfl hl.1 rfl (Nat.le_of_ble_eq_true rfl) dX13_keep_98 ⟨(Nat.le_of_ble_eq_true rfl), (Nat.le_of_ble_eq_true rfl)⟩ (fun v1832 H locs hpo hM hS => ?_)
                      obtain ⟨hpo1833, hpo1834, hpo1835, hpo1836⟩ := hpo
                      have hq_v1832 := tk_rng v1832
                      refine lv_if_ne (tgt := 115) hx hb dX13_keep_101 (by decide) (fun c9 => ?_) (fun c9 => ?_)
                      · have hc1838 : ¬ (v1832.toInt = 0) := fun h9 => c9 ((fi_eq rfl (show (0 : Int32).toInt = 0 by decide)).mpr h9)
                        exact hj1814 v185 v186 _ _ _ _ _ _ (by omega) (by omega) (by omega) (by omega) hM hS hIF hIG hIR hFF hGG hRR hf2 hf1699 _ (lv_sub hl [0, 1, 2, 3, 4, 5, 6] rfl)
                      · have hc1838 : v1832.toInt = 0 := (fi_eq rfl (show (0 : Int32).toInt = 0 by decide)).mp c9
                        refine lv_iload hx hb dX13_keep_104 (lv_at hl 0 rfl) ?_
                        refine mz_Sj (As := [.int v184]) (rest := []) ⟨hx, hb, hml, hown, hts⟩ hK hM hS (k_X13_ones l D cy ld ad am hD _ _ _ _ v184) ⟨callB_of 1 hts (wl_in mw_1626) rfl rfl rfl (htl _ mw_5) (htl _ mw_1624) hd_yX13_ones ⟨(Nat.le_of_ble_eq_true rfl), (Nat.le_of_ble_eq_true rfl)⟩, htl _ mw_1625⟩ rfl hl.1 rfl (Nat.le_of_ble_eq_true rfl) dX13_keep_106 ⟨(Nat.le_of_ble_eq_true rfl), (Nat.le_of_ble_eq_true rfl)⟩ (fun v1839 H locs hpo hM hS => ?_)
                        obtain ⟨hpo1840, hpo1841⟩ := hpo
                        have hq_v1839 := tk_rng v1839
                        refine lv_istore (lv' := [(4, .int v1839), (6, .int v184), (5, .int v185), (0, .ref am), (1, .int p1), (2, .int p2), (3, .int p3)]) hx hb dX13_keep_109 hl (by decide) rfl (fun ls hl => ?_)
                        refine lv_iload hx hb dX13_keep_111 (lv_at hl 1 rfl) ?_
                        refine lv_istore (lv' := [(5, .int v184), (4, .int v1839), (6, .int v184), (0, .ref am), (1, .int p1), (2, .int p2), (3, .int p3)]) hx hb dX13_keep_113 hl (by decide) rfl (fun ls hl => ?_)
                        exact hj1814 v184 v1839 _ _ _ _ _ _ (by omega) (by omega) (by omega) (by omega) hM hS hIF hIG hIR hFF hGG hRR hf2 hf1699 _ (lv_sub hl [2, 0, 1, 3, 4, 5, 6] rfl)
          have hk_0 : (0 : Int32).toInt = 0 := by decide
          have hk_m1 : ((-1) : Int32).toInt = (-1) := by decide
          have hk_100000000 : (100000000 : Int32).toInt = 100000000 := by decide
          exact hl1698 1100 0 (-1) 100000000 _ _ _ _ _ _ (by omega) (by omega) (by omega) (by omega) (by omega) hM hS hIF hIG hIR hFF (fun _ _ => rfl) (fun _ _ => rfl) hf2 (by omega) _ (lv_sub hl [0, 1, 2, 3, 4, 5, 6] rfl)
        · have hc34 : v26.toInt = 0 := (fi_eq rfl (show (0 : Int32).toInt = 0 by decide)).mp c9
          refine lv_iconst (v := (-1)) hx hb dX13_keep_36 (by decide) ?_
          have hk_m1 : ((-1) : Int32).toInt = (-1) := by decide
          exact mz_iret (v := (-1)) hx hb hr rfl hlocks ⟨hIF, hIG, hIR, hFF, (fun _ _ => rfl), (fun _ _ => rfl), (by omega), (by omega)⟩ hM hS dX13_keep_37
end
section
/-- a DUEL stands in each snapshot of the levels so far -/
def sn (f : Nat → Int32) (k : Int) : Prop := ∀ j : Nat, (j : Int) ≤ k → 0 ≤ (f (52 * (16 + j) + 6)).toInt
theorem sn.le {f g : Nat → Int32} {k k1 : Int} (h : sn f k) (e : g = f) (hk : k1 ≤ k) : sn g k1 := fun j hj => by
  rw [e]
  exact h j (by omega)
theorem sn.up {f g g6 : Nat → Int32} {k k1 : Int} {n : Nat} (h : sn g k) (hk : k1 = k + 1) (he : g6 = va_cpy f g 6 (52 * n) 52) (hn : (n : Int) = 16 + k1) (h12 : 0 ≤ (f 12).toInt) : sn g6 k1 := fun j hj => by
  rw [he]
  by_cases e : (j : Int) = k1
  · rw [mz_cpin (by omega) (by omega), show 6 + (52 * (16 + j) + 6 - 52 * n) = 12 by omega]
    exact h12
  · rw [mz_cpout (by omega)]
    exact h j (by omega)
theorem sn.back {g r q : Nat → Int32} {k : Int} {n : Nat} (h : sn g k) (he : r = va_cpy g q (52 * n) 6 52) (h0 : 16 ≤ n) (hn : (n : Int) ≤ 16 + k) : 0 ≤ (r 12).toInt := by
  rw [he, mz_cpin (by omega) (by omega)]
  have h9 := h (n - 16) (by omega)
  rw [show 52 * n + (12 - 6) = 52 * (16 + (n - 16)) + 6 by omega]
  exact h9
set_option maxHeartbeats 4000000 in
set_option maxRecDepth 100000 in
theorem k_X13_keepAll_x (l : Launch) (D : va_G) (cy : Nat → ClassId) (ld ad : Nat → Nat) (am : Nat) (hD : mz_D ad am) (Fa : Nat → Int32) (Ga : Nat → Int64) (Ra : Nat → Nat → Int32) (Sa : Nat → Nat → Int64) (p1 : Int32) (hIF : mz_IF true Fa) (hIG : mz_IG Ga) (hIR : mz_IR [] true Ra) (hp_0 : 0 ≤ p1.toInt) (hp_1 : p1.toInt ≤ 22) : Met l yX13_keepAll (wl yX13_keepAll cX13_keepAll 3 none) ({ frames := 3, cells := 0, slots := 0, locals := 140 }) (mz_p D cy ld ad am Fa Ga Ra Sa [.ref am, .int p1]) (mz_w D cy ad am (fun F G R S => mz_IF true F ∧ mz_IG G ∧ mz_IR [] true R ∧ (∀ k : Nat, k ∉ ([] : List Nat) → F k = Fa k) ∧ (∀ k : Nat, k ∉ ([6] : List Nat) → R k = Ra k) ∧ (∀ k : Nat, k ∉ ([] : List Nat) → G k = Ga k) ∧ R 6 = va_cpy (Ra 3) (Ra 6) 6 (52 * p1.toInt.toNat) 52)) 0 0 (mz_W ad am) := by
  refine mz_met (y := yX13_keepAll) (cc := cX13_keepAll) (maxL := 3) (ret := none) (av := [.ref am, .int p1]) _ (by decide) (Nat.le_of_ble_eq_true rfl) ?_
  intro p e s m args below meth c hx hb hr hml hts htl hown hlocks hK H locs hM hS ls hl
  have hown : s.vm.findClass RX13 = some m.cls := hown
  have hl : lv_has ls 3 [(0, .ref am), (1, .int p1)] := hl
  have hr_p1 := tk_rng p1
  refine lv_iconst (v := 0) hx hb dX13_keepAll_0 (by decide) ?_
  refine lv_istore_n (lv' := [(2, .int 0), (0, .ref am), (1, .int p1)]) hx hb dX13_keepAll_1 rfl hl (by decide) rfl (fun ls hl => ?_)
  have hI9 := hIR
  have hIR := hIR.hole (X := [6])
  obtain ⟨cf, ecf⟩ : ∃ z : Nat → Int32, Ra 3 = z := ⟨_, rfl⟩
  obtain ⟨cg, ecg⟩ : ∃ z : Nat → Int32, Ra 6 = z := ⟨_, rfl⟩
  have hl62 : ∀ (N_l62 : Nat) (v13 : Int32) (H : Heap) (locs : List Loc) (R : Nat → Nat → Int32), (0 ≤ v13.toInt) → (v13.toInt ≤ 52) → (mz_S D cy ad am Fa Ga R Sa H) → (va_S (mz_W ad am) s.heap H locs) → (mz_IR [6] true R) → (∀ k : Nat, k ∉ ([6] : List Nat) → R k = Ra k) → (R 6 = va_cpy cf cg 6 (52 * p1.toInt.toNat) v13.toInt.toNat) → (R 3 = cf) → ((-1) * v13.toInt + 57 < (N_l62 : Int)) → ∀ ls : Array Slot, lv_has ls 3 [(2, .int v13), (0, .ref am), (1, .int p1)] → W p l e ({ frames := 3, cells := 0, slots := 0, locals := 140 }) s m args below meth c H locs 0 0 (MQ below (mz_w D cy ad am (fun F G R S => mz_IF true F ∧ mz_IG G ∧ mz_IR [] true R ∧ (∀ k : Nat, k ∉ ([] : List Nat) → F k = Fa k) ∧ (∀ k : Nat, k ∉ ([6] : List Nat) → R k = Ra k) ∧ (∀ k : Nat, k ∉ ([] : List Nat) → G k = Ga k) ∧ R 6 = va_cpy (Ra 3) (Ra 6) 6 (52 * p1.toInt.toNat) 52)) args s 0 0 (mz_W ad am)) (F0 m 2 ls []) := by
    intro N_l62
    induction N_l62 with
    | zero => intro v13 H locs R hq0_l62 hq1_l62 hM hS hIR hRR hcp hcs hm_l62 ls hl; exfalso; omega
    | succ N_l62 ih_l62 =>
      intro v13 H locs R hq0_l62 hq1_l62 hM hS hIR hRR hcp hcs hm_l62 ls hl
      refine lv_iload_n hx hb dX13_keepAll_2 rfl (lv_at hl 0 rfl) ?_
      refine lv_bipush (v := 52) hx hb dX13_keepAll_3 (by decide) ?_
      refine lv_icmp_ge (tgt := 34) hx hb dX13_keepAll_5 (by decide) (fun c9 => ?_) (fun c9 => ?_)
      · have hc63 : 52 ≤ v13.toInt := (fi_le (show (52 : Int32).toInt = 52 by decide) rfl).mp c9
        have e9 : v13.toInt.toNat = 52 := by omega
        rw [e9] at hcp
        have hIR := hIR.close (by rw [hcp]; exact mz_keep (by rw [← ecf]; exact hI9.at 3) (by rw [← ecg]; exact hI9.at 6) (by omega))
        exact mz_vret hx hb hr hlocks ⟨hIF, hIG, hIR, (fun _ _ => rfl), hRR, (fun _ _ => rfl), (by rw [hcp, ecf, ecg])⟩ hM hS dX13_keepAll_34
      · have hc63 : ¬ (52 ≤ v13.toInt) := fun h9 => c9 ((fi_le (show (52 : Int32).toInt = 52 by decide) rfl).mpr h9)
        refine lv_aload_n hx hb dX13_keepAll_8 rfl (lv_at hl 1 rfl) ?_
        refine mz_getR hx hb htl hown hK hM 6 (Nat.le_of_ble_eq_true rfl) (Nat.le_of_ble_eq_true rfl) (htl _ mw_191) (fun _ h9 => h9) dX13_keepAll_9 ?_
        refine lv_bipush (v := 52) hx hb dX13_keepAll_12 (by decide) ?_
        refine lv_iload_n hx hb dX13_keepAll_14 rfl (lv_at hl 2 rfl) ?_
        refine lv_imul hx hb dX13_keepAll_15 ?_
        refine tk_mul (show (52 : Int32).toInt = 52 by decide) rfl (by omega) (by omega) (fun v64 h_v64 => ?_)
        refine lv_iload_n hx hb dX13_keepAll_16 rfl (lv_at hl 0 rfl) ?_
        refine lv_iadd hx hb dX13_keepAll_17 ?_
        refine tk_add rfl rfl (by omega) (by omega) (fun v65 h_v65 => ?_)
        refine lv_aload_n hx hb dX13_keepAll_18 rfl (lv_at hl 1 rfl) ?_
        refine mz_getR hx hb htl hown hK hM 3 (Nat.le_of_ble_eq_true rfl) (Nat.le_of_ble_eq_true rfl) (htl _ mw_188) (fun _ h9 => h9) dX13_keepAll_19 ?_
        refine lv_bipush (v := 6) hx hb dX13_keepAll_22 (by decide) ?_
        refine lv_iload_n hx hb dX13_keepAll_24 rfl (lv_at hl 0 rfl) ?_
        refine lv_iadd hx hb dX13_keepAll_25 ?_
        refine tk_add (show (6 : Int32).toInt = 6 by decide) rfl (by omega) (by omega) (fun v66 h_v66 => ?_)
        refine mz_iald hx hb hK hM 3 (Nat.le_of_ble_eq_true rfl) rfl (nn := 5560) rfl rfl (by omega) (by omega) dX13_keepAll_26 (fun v67 e_v67 => ?_)
        have hq_v67 := tk_rng v67
        refine mz_iast (x := v67) hx hb hK hD hM hS 6 (Nat.le_of_ble_eq_true rfl) rfl (nn := 1196) rfl rfl (by omega) (by omega) dX13_keepAll_27 (fun H locs R hM hS hw9 hj9 => ?_)
        have hIR := hIR.putX hj9 (by decide)
        have hcp := mz_cps (sp := 6) (dp := (52 * p1.toInt.toNat)) (n := v13.toInt.toNat) hw9 hcp (by omega) (by rw [← e_v67, hcs]; congr 1; have h9 := tk_nat (i := v66) rfl (by omega); omega)
        have hcs := (hj9 3 (by decide)).trans hcs
        have hRR := mz_frp (K := [6]) (Fa := Ra) hj9 hRR (by decide)
        have e_v67 : R 3 (v66 : Int32).toNatClampNeg = _ := (congrFun (hj9 3 (by decide)) _).trans e_v67
        obtain ⟨v69, h_v69, e_v69⟩ := tk_inc v13 1 (by decide) (by omega) (by omega)
        refine lv_iinc (v := v69) (lv' := [(2, .int v69), (0, .ref am), (1, .int p1)]) hx hb dX13_keepAll_28 hl (k := 0) rfl e_v69 (by decide) rfl (fun ls hl => ?_)
        refine lv_goto (tgt := 2) hx hb dX13_keepAll_31 (by decide) ?_
        exact ih_l62 v69 _ _ _ (by omega) (by omega) hM hS hIR hRR (by rw [show v69.toInt.toNat = v13.toInt.toNat + 1 by omega]; exact hcp) hcs (by omega) _ (lv_sub hl [0, 1, 2] rfl)
  have hk_0 : (0 : Int32).toInt = 0 := by decide
  exact hl62 58 0 _ _ _ (by omega) (by omega) hM hS hIR (fun _ _ => rfl) (by rw [show (0 : Int32).toInt.toNat = 0 by decide, mz_cp0]; exact ecg) ecf (by omega) _ (lv_sub hl [0, 1, 2] rfl)
end
section
set_option maxHeartbeats 4000000 in
set_option maxRecDepth 100000 in
theorem k_X13_openLevel_x (l : Launch) (D : va_G) (cy : Nat → ClassId) (ld ad : Nat → Nat) (am : Nat) (hD : mz_D ad am) (Fa : Nat → Int32) (Ga : Nat → Int64) (Ra : Nat → Nat → Int32) (Sa : Nat → Nat → Int64) (p1 : Int32) (hIF : mz_IF true Fa) (hIG : mz_IG Ga) (hIR : mz_IR [] true Ra) (hp_0 : 0 ≤ p1.toInt) (hp_1 : p1.toInt ≤ 4) : Met l yX13_openLevel (wl yX13_openLevel cX13_openLevel 2 none) ({ frames := 4, cells := 0, slots := 0, locals := 210 }) (mz_p D cy ld ad am Fa Ga Ra Sa [.ref am, .int p1]) (mz_w D cy ad am (fun F G R S => mz_IF true F ∧ mz_IG G ∧ mz_IR [] true R ∧ (∀ k : Nat, k ∉ ([] : List Nat) → F k = Fa k) ∧ (∀ k : Nat, k ∉ ([6, 43, 44, 45, 46] : List Nat) → R k = Ra k) ∧ (∀ k : Nat, k ∉ ([] : List Nat) → G k = Ga k) ∧ R 43 = upd (Ra 43) p1.toInt.toNat (-1) ∧ R 6 = va_cpy (Ra 3) (Ra 6) 6 (52 * (16 + p1.toInt.toNat)) 52)) 0 0 (mz_W ad am) := by
  refine mz_met (y := yX13_openLevel) (cc := cX13_openLevel) (maxL := 2) (ret := none) (av := [.ref am, .int p1]) _ (by decide) (Nat.le_of_ble_eq_true rfl) ?_
  intro p e s m args below meth c hx hb hr hml hts htl hown hlocks hK H locs hM hS ls hl
  have hown : s.vm.findClass RX13 = some m.cls := hown
  have hl : lv_has ls 2 [(0, .ref am), (1, .int p1)] := hl
  have hr_p1 := tk_rng p1
  refine lv_aload_n hx hb dX13_openLevel_0 rfl (lv_at hl 0 rfl) ?_
  refine mz_getR hx hb htl hown hK hM 43 (Nat.le_of_ble_eq_true rfl) (Nat.le_of_ble_eq_true rfl) (htl _ mw_227) (fun _ h9 => h9) dX13_openLevel_1 ?_
  refine lv_iload_n hx hb dX13_openLevel_4 rfl (lv_at hl 1 rfl) ?_
  refine lv_iconst (v := (-1)) hx hb dX13_openLevel_5 (by decide) ?_
  have hk_m1 : ((-1) : Int32).toInt = (-1) := by decide
  refine mz_iast (x := (-1)) hx hb hK hD hM hS 43 (Nat.le_of_ble_eq_true rfl) rfl (nn := 5) rfl rfl (by omega) (by omega) dX13_openLevel_6 (fun H locs R hM hS hw9 hj9 => ?_)
  have hIR := hIR.put hw9 hj9 trivial
  have hRR := mz_frp (K := [6, 43, 44, 45, 46]) (Fa := Ra) hj9 (fun _ _ => rfl) (by decide)
  have hre_3 : R 3 = Ra 3 := (hj9 3 (by decide)).trans (rfl : Ra 3 = Ra 3)
  have hre_6 : R 6 = Ra 6 := (hj9 6 (by decide)).trans (rfl : Ra 6 = Ra 6)
  have hre_43 : R 43 = upd (Ra 43) (p1 : Int32).toNatClampNeg (-1) := hw9.trans (congrArg (fun f => upd f (p1 : Int32).toNatClampNeg (-1)) (rfl : Ra 43 = Ra 43))
  refine lv_aload_n hx hb dX13_openLevel_7 rfl (lv_at hl 0 rfl) ?_
  refine mz_getR hx hb htl hown hK hM 44 (Nat.le_of_ble_eq_true rfl) (Nat.le_of_ble_eq_true rfl) (htl _ mw_228) (fun _ h9 => h9) dX13_openLevel_8 ?_
  refine lv_iload_n hx hb dX13_openLevel_11 rfl (lv_at hl 1 rfl) ?_
  refine lv_iconst (v := 0) hx hb dX13_openLevel_12 (by decide) ?_
  have hk_0 : (0 : Int32).toInt = 0 := by decide
  refine mz_iast (x := 0) hx hb hK hD hM hS 44 (Nat.le_of_ble_eq_true rfl) rfl (nn := 5) rfl rfl (by omega) (by omega) dX13_openLevel_13 (fun H locs R hM hS hw9 hj9 => ?_)
  have hIR := hIR.put hw9 hj9 trivial
  have hRR := mz_frp (K := [6, 43, 44, 45, 46]) (Fa := Ra) hj9 hRR (by decide)
  have hre_3 : R 3 = Ra 3 := (hj9 3 (by decide)).trans hre_3
  have hre_6 : R 6 = Ra 6 := (hj9 6 (by decide)).trans hre_6
  have hre_43 : R 43 = upd (Ra 43) (p1 : Int32).toNatClampNeg (-1) := (hj9 43 (by decide)).trans hre_43
  refine lv_aload_n hx hb dX13_openLevel_14 rfl (lv_at hl 0 rfl) ?_
  refine mz_getR hx hb htl hown hK hM 45 (Nat.le_of_ble_eq_true rfl) (Nat.le_of_ble_eq_true rfl) (htl _ mw_229) (fun _ h9 => h9) dX13_openLevel_15 ?_
  refine lv_iload_n hx hb dX13_openLevel_18 rfl (lv_at hl 1 rfl) ?_
  refine lv_iconst (v := (-1)) hx hb dX13_openLevel_19 (by decide) ?_
  have hk_m1 : ((-1) : Int32).toInt = (-1) := by decide
  refine mz_iast (x := (-1)) hx hb hK hD hM hS 45 (Nat.le_of_ble_eq_true rfl) rfl (nn := 5) rfl rfl (by omega) (by omega) dX13_openLevel_20 (fun H locs R hM hS hw9 hj9 => ?_)
  have hIR := hIR.put hw9 hj9 trivial
  have hRR := mz_frp (K := [6, 43, 44, 45, 46]) (Fa := Ra) hj9 hRR (by decide)
  have hre_3 : R 3 = Ra 3 := (hj9 3 (by decide)).trans hre_3
  have hre_6 : R 6 = Ra 6 := (hj9 6 (by decide)).trans hre_6
  have hre_43 : R 43 = upd (Ra 43) (p1 : Int32).toNatClampNeg (-1) := (hj9 43 (by decide)).trans hre_43
  refine lv_aload_n hx hb dX13_openLevel_21 rfl (lv_at hl 0 rfl) ?_
  refine mz_getR hx hb htl hown hK hM 46 (Nat.le_of_ble_eq_true rfl) (Nat.le_of_ble_eq_true rfl) (htl _ mw_230) (fun _ h9 => h9) dX13_openLevel_22 ?_
  refine lv_iload_n hx hb dX13_openLevel_25 rfl (lv_at hl 1 rfl) ?_
  refine lv_aload_n hx hb dX13_openLevel_26 rfl (lv_at hl 0 rfl) ?_
  refine lv_iconst (v := 4) hx hb dX13_openLevel_27 (by decide) ?_
  have hb3 := hre_3
  have hb6 := hre_6
  obtain ⟨v5, hf4⟩ : ∃ z : Int32, R 3 16 = z := ⟨_, rfl⟩
  have hq_v5 := tk_rng v5
  have hr_v5 : (-1) ≤ v5.toInt ∧ v5.toInt ≤ 7 := by have h9 := hIR.d; unfold dO at h9; rw [hf4] at h9; omega
  have hk_4 : (4 : Int32).toInt = 4 := by decide
  refine mz_Vj (As := [.int 4]) (rest := [.int p1, .ref (ad 46)]) ⟨hx, hb, hml, hown, hts⟩ hK hM hS (k_X13_inDuel_4 l D cy ld ad am hD _ _ _ _ v5 hf4) ⟨callB_of 1 hts (wl_in mw_1046) rfl rfl rfl (htl _ mw_5) (htl _ mw_1043) hd_yX13_inDuel ⟨(Nat.le_of_ble_eq_true rfl), (Nat.le_of_ble_eq_true rfl)⟩, htl _ mw_1044, htl _ mw_1045⟩ rfl hl.1 rfl (Nat.le_of_ble_eq_true rfl) dX13_openLevel_28 ⟨(Nat.le_of_ble_eq_true rfl), (Nat.le_of_ble_eq_true rfl)⟩ (fun v6 H locs hpo hM hS => ?_)
  have hpo10 := hpo
  have hq_v6 := tk_rng v6
  refine mz_iast (x := v6) hx hb hK hD hM hS 46 (Nat.le_of_ble_eq_true rfl) rfl (nn := 5) rfl rfl (by omega) (by omega) dX13_openLevel_31 (fun H locs R hM hS hw9 hj9 => ?_)
  have hIR := hIR.put hw9 hj9 trivial
  have hRR := mz_frp (K := [6, 43, 44, 45, 46]) (Fa := Ra) hj9 hRR (by decide)
  have hre_3 : R 3 = Ra 3 := (hj9 3 (by decide)).trans hre_3
  have hre_6 : R 6 = Ra 6 := (hj9 6 (by decide)).trans hre_6
  have hre_43 : R 43 = upd (Ra 43) (p1 : Int32).toNatClampNeg (-1) := (hj9 43 (by decide)).trans hre_43
  have hf4 : R 3 16 = _ := (congrFun (hj9 3 (by decide)) 16).trans hf4
  refine lv_aload_n hx hb dX13_openLevel_32 rfl (lv_at hl 0 rfl) ?_
  refine lv_bipush (v := 16) hx hb dX13_openLevel_33 (by decide) ?_
  refine lv_iload_n hx hb dX13_openLevel_35 rfl (lv_at hl 1 rfl) ?_
  refine lv_iadd hx hb dX13_openLevel_36 ?_
  refine tk_add (show (16 : Int32).toInt = 16 by decide) rfl (by omega) (by omega) (fun v13 h_v13 => ?_)
  have hb3 := hre_3
  have hb6 := hre_6
  refine mz_Vv (As := [.int v13]) (rest := []) ⟨hx, hb, hml, hown, hts⟩ hK hM hS (k_X13_keepAll_x l D cy ld ad am hD _ _ _ _ v13 hIF hIG hIR (by omega) (by omega)) ⟨callB_of 1 hts (wl_in mw_1033) rfl rfl rfl (htl _ mw_5) (htl _ mw_1030) hd_yX13_keepAll ⟨(Nat.le_of_ble_eq_true rfl), (Nat.le_of_ble_eq_true rfl)⟩, htl _ mw_1031, htl _ mw_1032⟩ rfl hl.1 rfl (Nat.le_of_ble_eq_true rfl) dX13_openLevel_37 ⟨(Nat.le_of_ble_eq_true rfl), (Nat.le_of_ble_eq_true rfl)⟩ (fun H locs F G R S hpo hM hS => ?_)
  obtain ⟨hIF, hIG, hIR, hfr9, hrr9, hgr9, hx14⟩ := hpo
  have hFF := mz_fr (K := []) (Fa := Fa) hfr9 (fun _ _ => rfl) (by decide)
  have hRR := mz_fr (K := [6, 43, 44, 45, 46]) (Fa := Ra) hrr9 hRR (by decide)
  have hGG := mz_fr (K := []) (Fa := Ga) hgr9 (fun _ _ => rfl) (by decide)
  have hre_3 : R 3 = Ra 3 := (hrr9 3 (by decide)).trans hre_3
  have hre_43 : R 43 = upd (Ra 43) (p1 : Int32).toNatClampNeg (-1) := (hrr9 43 (by decide)).trans hre_43
  have hf4 : R 3 16 = _ := (congrFun (hrr9 3 (by decide)) 16).trans hf4
  have hk6 := hx14
  rw [hb3, hb6, show v13.toInt.toNat = 16 + p1.toInt.toNat by omega] at hk6
  exact mz_vret hx hb hr hlocks ⟨hIF, hIG, hIR, hFF, hRR, hGG, (hre_43.trans rfl), hk6⟩ hM hS dX13_openLevel_40
end
