section
theorem hd_yX13_leftOf : yX13_leftOf.cls ≠ "java/lang/invoke/MethodHandle" ∧ yX13_leftOf.cls ≠ "java/lang/invoke/VarHandle" ∧ (parseMethodDescriptor yX13_leftOf.desc).map (fun d => d.parameters.length) = some 2 := by decide +kernel
theorem hd_yX13_nextVerse : yX13_nextVerse.cls ≠ "java/lang/invoke/MethodHandle" ∧ yX13_nextVerse.cls ≠ "java/lang/invoke/VarHandle" ∧ (parseMethodDescriptor yX13_nextVerse.desc).map (fun d => d.parameters.length) = some 2 := by decide +kernel
theorem dX13_fits_0 : decode cX13_fits 0 = .ok (.aload_n 0, 1) := by decide +kernel
theorem dX13_fits_1 : decode cX13_fits 1 = .ok (.iconst 0, 1) := by decide +kernel
theorem dX13_fits_2 : decode cX13_fits 2 = .ok (.putfield 170, 3) := by decide +kernel
theorem dX13_fits_5 : decode cX13_fits 5 = .ok (.iload_n 1, 1) := by decide +kernel
theorem dX13_fits_6 : decode cX13_fits 6 = .ok (.i2l, 1) := by decide +kernel
theorem dX13_fits_7 : decode cX13_fits 7 = .ok (.lconst 0, 1) := by decide +kernel
theorem dX13_fits_8 : decode cX13_fits 8 = .ok (.ldc2_w 199, 3) := by decide +kernel
theorem dX13_fits_11 : decode cX13_fits 11 = .ok (.invokestatic 190, 3) := by decide +kernel
theorem dX13_fits_14 : decode cX13_fits 14 = .ok (.ifCond .eq 22, 3) := by decide +kernel
theorem dX13_fits_36 : decode cX13_fits 36 = .ok (.iconst (-1), 1) := by decide +kernel
theorem dX13_fits_37 : decode cX13_fits 37 = .ok (.ireturn, 1) := by decide +kernel
theorem dX13_fits_17 : decode cX13_fits 17 = .ok (.iload_n 2, 1) := by decide +kernel
theorem dX13_fits_18 : decode cX13_fits 18 = .ok (.ifCond .lt 18, 3) := by decide +kernel
theorem dX13_fits_21 : decode cX13_fits 21 = .ok (.iload_n 2, 1) := by decide +kernel
theorem dX13_fits_22 : decode cX13_fits 22 = .ok (.iconst 2, 1) := by decide +kernel
theorem dX13_fits_23 : decode cX13_fits 23 = .ok (.if_icmp .le 15, 3) := by decide +kernel
theorem dX13_fits_38 : decode cX13_fits 38 = .ok (.iconst 0, 1) := by decide +kernel
theorem dX13_fits_39 : decode cX13_fits 39 = .ok (.istore_n 3, 1) := by decide +kernel
theorem dX13_fits_40 : decode cX13_fits 40 = .ok (.iconst (-1), 1) := by decide +kernel
theorem dX13_fits_41 : decode cX13_fits 41 = .ok (.istore 4, 2) := by decide +kernel
theorem dX13_fits_43 : decode cX13_fits 43 = .ok (.iconst (-1), 1) := by decide +kernel
theorem dX13_fits_44 : decode cX13_fits 44 = .ok (.istore 5, 2) := by decide +kernel
theorem dX13_fits_46 : decode cX13_fits 46 = .ok (.iconst 1, 1) := by decide +kernel
theorem dX13_fits_47 : decode cX13_fits 47 = .ok (.istore 6, 2) := by decide +kernel
theorem dX13_fits_49 : decode cX13_fits 49 = .ok (.iload 6, 2) := by decide +kernel
theorem dX13_fits_51 : decode cX13_fits 51 = .ok (.sipush 1000, 3) := by decide +kernel
theorem dX13_fits_54 : decode cX13_fits 54 = .ok (.if_icmp .ge 56, 3) := by decide +kernel
theorem dX13_fits_110 : decode cX13_fits 110 = .ok (.iload_n 2, 1) := by decide +kernel
theorem dX13_fits_111 : decode cX13_fits 111 = .ok (.tableswitch 33 0 2 #[25, 28, 31], 25) := by decide +kernel
theorem dX13_fits_136 : decode cX13_fits 136 = .ok (.iload 4, 2) := by decide +kernel
theorem dX13_fits_138 : decode cX13_fits 138 = .ok (.ireturn, 1) := by decide +kernel
theorem dX13_fits_139 : decode cX13_fits 139 = .ok (.iload 5, 2) := by decide +kernel
theorem dX13_fits_141 : decode cX13_fits 141 = .ok (.ireturn, 1) := by decide +kernel
theorem dX13_fits_142 : decode cX13_fits 142 = .ok (.iload_n 3, 1) := by decide +kernel
theorem dX13_fits_143 : decode cX13_fits 143 = .ok (.ireturn, 1) := by decide +kernel
theorem dX13_fits_57 : decode cX13_fits 57 = .ok (.aload_n 0, 1) := by decide +kernel
theorem dX13_fits_58 : decode cX13_fits 58 = .ok (.getfield 146, 3) := by decide +kernel
theorem dX13_fits_61 : decode cX13_fits 61 = .ok (.iload 6, 2) := by decide +kernel
theorem dX13_fits_63 : decode cX13_fits 63 = .ok (.aload_n 0, 1) := by decide +kernel
theorem dX13_fits_64 : decode cX13_fits 64 = .ok (.iload 6, 2) := by decide +kernel
theorem dX13_fits_66 : decode cX13_fits 66 = .ok (.iload_n 1, 1) := by decide +kernel
theorem dX13_fits_67 : decode cX13_fits 67 = .ok (.invokevirtual 575, 3) := by decide +kernel
theorem dX13_fits_70 : decode cX13_fits 70 = .ok (.iastore, 1) := by decide +kernel
theorem dX13_fits_71 : decode cX13_fits 71 = .ok (.aload_n 0, 1) := by decide +kernel
theorem dX13_fits_72 : decode cX13_fits 72 = .ok (.getfield 146, 3) := by decide +kernel
theorem dX13_fits_75 : decode cX13_fits 75 = .ok (.iload 6, 2) := by decide +kernel
theorem dX13_fits_77 : decode cX13_fits 77 = .ok (.iaload, 1) := by decide +kernel
theorem dX13_fits_78 : decode cX13_fits 78 = .ok (.iconst (-1), 1) := by decide +kernel
theorem dX13_fits_104 : decode cX13_fits 104 = .ok (.iinc 6 1, 3) := by decide +kernel
theorem dX13_fits_107 : decode cX13_fits 107 = .ok (.goto (-58), 3) := by decide +kernel
theorem dX13_fits_79 : decode cX13_fits 79 = .ok (.if_icmp .eq 25, 3) := by decide +kernel
theorem dX13_fits_82 : decode cX13_fits 82 = .ok (.iinc 3 1, 3) := by decide +kernel
theorem dX13_fits_85 : decode cX13_fits 85 = .ok (.iload 4, 2) := by decide +kernel
theorem dX13_fits_87 : decode cX13_fits 87 = .ok (.iconst (-1), 1) := by decide +kernel
theorem dX13_fits_98 : decode cX13_fits 98 = .ok (.istore 4, 2) := by decide +kernel
theorem dX13_fits_100 : decode cX13_fits 100 = .ok (.iload 6, 2) := by decide +kernel
theorem dX13_fits_102 : decode cX13_fits 102 = .ok (.istore 5, 2) := by decide +kernel
theorem dX13_fits_88 : decode cX13_fits 88 = .ok (.if_icmp .ne 8, 3) := by decide +kernel
theorem dX13_fits_96 : decode cX13_fits 96 = .ok (.iload 4, 2) := by decide +kernel
theorem dX13_fits_91 : decode cX13_fits 91 = .ok (.iload 6, 2) := by decide +kernel
theorem dX13_fits_93 : decode cX13_fits 93 = .ok (.goto 5, 3) := by decide +kernel
theorem dX13_fits_26 : decode cX13_fits 26 = .ok (.aload_n 0, 1) := by decide +kernel
theorem dX13_fits_27 : decode cX13_fits 27 = .ok (.iload_n 2, 1) := by decide +kernel
theorem dX13_fits_28 : decode cX13_fits 28 = .ok (.iconst 3, 1) := by decide +kernel
theorem dX13_fits_29 : decode cX13_fits 29 = .ok (.isub, 1) := by decide +kernel
theorem dX13_fits_30 : decode cX13_fits 30 = .ok (.invokevirtual 201, 3) := by decide +kernel
theorem dX13_fits_33 : decode cX13_fits 33 = .ok (.ifCond .ne 5, 3) := by decide +kernel
theorem dX13_fits_144 : decode cX13_fits 144 = .ok (.aload_n 0, 1) := by decide +kernel
theorem dX13_fits_145 : decode cX13_fits 145 = .ok (.iload_n 2, 1) := by decide +kernel
theorem dX13_fits_146 : decode cX13_fits 146 = .ok (.iconst 3, 1) := by decide +kernel
theorem dX13_fits_147 : decode cX13_fits 147 = .ok (.isub, 1) := by decide +kernel
theorem dX13_fits_148 : decode cX13_fits 148 = .ok (.iload_n 1, 1) := by decide +kernel
theorem dX13_fits_149 : decode cX13_fits 149 = .ok (.invokevirtual 578, 3) := by decide +kernel
theorem dX13_fits_152 : decode cX13_fits 152 = .ok (.ireturn, 1) := by decide +kernel
set_option maxHeartbeats 4000000 in
set_option maxRecDepth 100000 in
theorem k_X13_fits (l : Launch) (D : va_G) (cy : Nat → ClassId) (ld ad : Nat → Nat) (am : Nat) (hD : mz_D ad am) (Fa : Nat → Int32) (Ga : Nat → Int64) (Ra : Nat → Nat → Int32) (Sa : Nat → Nat → Int64) (p1 : Int32) (p2 : Int32) (hIF : mz_IF true Fa) (hIG : mz_IG Ga) (hIR : mz_IR [] true Ra) : Met l yX13_fits (wl yX13_fits cX13_fits 7 (some .int)) ({ frames := 11, cells := 0, slots := 0, locals := 700 }) (mz_p D cy ld ad am Fa Ga Ra Sa [.ref am, .int p1, .int p2]) (mz_i D cy ad am (fun r F G R S => mz_IF true F ∧ mz_IG G ∧ mz_IR [] true R ∧ (∀ k : Nat, k ∉ ([0, 34, 38] : List Nat) → F k = Fa k) ∧ (∀ k : Nat, k ∉ ([59] : List Nat) → R k = Ra k) ∧ (∀ k : Nat, k ∉ ([39, 40] : List Nat) → G k = Ga k) ∧ (-1) ≤ r.toInt ∧ r.toInt ≤ 999)) 0 0 (mz_W ad am) := by
  refine mz_met (y := yX13_fits) (cc := cX13_fits) (maxL := 7) (ret := (some .int)) (av := [.ref am, .int p1, .int p2]) _ (by decide) (Nat.le_of_ble_eq_true rfl) ?_
  intro p e s m args below meth c hx hb hr hml hts htl hown hlocks hK H locs hM hS ls hl
  have hown : s.vm.findClass RX13 = some m.cls := hown
  have hl : lv_has ls 7 [(0, .ref am), (1, .int p1), (2, .int p2)] := hl
  have hr_p1 := tk_rng p1
  have hr_p2 := tk_rng p2
  refine lv_aload_n hx hb dX13_fits_0 rfl (lv_at hl 0 rfl) ?_
  refine lv_iconst (v := 0) hx hb dX13_fits_1 (by decide) ?_
  have hk_0 : (0 : Int32).toInt = 0 := by decide
  refine mz_putI (ty := .int) (x := 0) hx hb htl hown hK hD hM hS 0 (Nat.le_of_ble_eq_true rfl) rfl (htl _ mw_286) (fun _ h9 => h9) rfl (tyX13_ok 0 (by decide)) rfl rfl dX13_fits_2 (fun H locs F hM hS hf9 hj9 => ?_)
  have hIF := hIF.put hf9 hj9 (tk_rng _).1 (tk_rng _).2 (by decide)
  have hFF := mz_frp (K := [0, 34, 38]) (Fa := Fa) hj9 (fun _ _ => rfl) (by decide)
  have hf2 := hf9
  refine lv_iload_n hx hb dX13_fits_5 rfl (lv_at hl 1 rfl) ?_
  obtain ⟨w3, e_w3, h_w3⟩ : ∃ z : Int64, p1.toInt64 = z ∧ z.toInt = p1.toInt := ⟨_, rfl, fl_w _⟩
  refine lv_i2l (v := w3) hx hb dX13_fits_6 e_w3 ?_
  refine lv_lconst (v := 0) hx hb dX13_fits_7 (by decide) ?_
  refine lv_ldc2 hx hb hown (htl _ mw_288) dX13_fits_8 ?_
  have hk_0 : (0 : Int64).toInt = 0 := by decide
  have hk_9 : (9 : Int64).toInt = 9 := by decide
  refine mz_Sj (As := [.long w3, .long 0, .long 9]) (rest := []) ⟨hx, hb, hml, hown, hts⟩ hK hM hS (k_X13_in l D cy ld ad am hD _ _ _ _ w3 0 9) ⟨callB_of 3 hts (wl_in mw_292) rfl rfl rfl (htl _ mw_5) (htl _ mw_290) hd_yX13_in ⟨(Nat.le_of_ble_eq_true rfl), (Nat.le_of_ble_eq_true rfl)⟩, htl _ mw_291⟩ rfl hl.1 rfl (Nat.le_of_ble_eq_true rfl) dX13_fits_11 ⟨(Nat.le_of_ble_eq_true rfl), (Nat.le_of_ble_eq_true rfl)⟩ (fun v4 H locs hpo hM hS => ?_)
  obtain ⟨hpo5, hpo6, hpo10, hpo11, hpo12, hpo13⟩ := hpo
  have hq_v4 := tk_rng v4
  refine lv_if_eq (tgt := 36) hx hb dX13_fits_14 (by decide) (fun c9 => ?_) (fun c9 => ?_)
  · have hc15 : v4.toInt = 0 := (fi_eq rfl (show (0 : Int32).toInt = 0 by decide)).mp c9
    refine lv_iconst (v := (-1)) hx hb dX13_fits_36 (by decide) ?_
    have hk_m1 : ((-1) : Int32).toInt = (-1) := by decide
    exact mz_iret (v := (-1)) hx hb hr rfl hlocks ⟨hIF, hIG, hIR, hFF, (fun _ _ => rfl), (fun _ _ => rfl), (by omega), (by omega)⟩ hM hS dX13_fits_37
  · have hc15 : ¬ (v4.toInt = 0) := fun h9 => c9 ((fi_eq rfl (show (0 : Int32).toInt = 0 by decide)).mpr h9)
    have hwk_16 : 0 ≤ w3.toInt ∧ w3.toInt ≤ 9 := by omega
    refine lv_iload_n hx hb dX13_fits_17 rfl (lv_at hl 2 rfl) ?_
    refine lv_if_lt (tgt := 36) hx hb dX13_fits_18 (by decide) (fun c9 => ?_) (fun c9 => ?_)
    · have hc17 : p2.toInt < 0 := (fi_lt rfl (show (0 : Int32).toInt = 0 by decide)).mp c9
      refine lv_iconst (v := (-1)) hx hb dX13_fits_36 (by decide) ?_
      have hk_m1 : ((-1) : Int32).toInt = (-1) := by decide
      exact mz_iret (v := (-1)) hx hb hr rfl hlocks ⟨hIF, hIG, hIR, hFF, (fun _ _ => rfl), (fun _ _ => rfl), (by omega), (by omega)⟩ hM hS dX13_fits_37
    · have hc17 : ¬ (p2.toInt < 0) := fun h9 => c9 ((fi_lt rfl (show (0 : Int32).toInt = 0 by decide)).mpr h9)
      refine lv_iload_n hx hb dX13_fits_21 rfl (lv_at hl 2 rfl) ?_
      refine lv_iconst (v := 2) hx hb dX13_fits_22 (by decide) ?_
      refine lv_icmp_le (tgt := 38) hx hb dX13_fits_23 (by decide) (fun c9 => ?_) (fun c9 => ?_)
      · have hc18 : p2.toInt ≤ 2 := (fi_le rfl (show (2 : Int32).toInt = 2 by decide)).mp c9
        refine lv_iconst (v := 0) hx hb dX13_fits_38 (by decide) ?_
        refine lv_istore_n (lv' := [(3, .int 0), (0, .ref am), (1, .int p1), (2, .int p2)]) hx hb dX13_fits_39 rfl hl (by decide) rfl (fun ls hl => ?_)
        refine lv_iconst (v := (-1)) hx hb dX13_fits_40 (by decide) ?_
        refine lv_istore (lv' := [(4, .int (-1)), (3, .int 0), (0, .ref am), (1, .int p1), (2, .int p2)]) hx hb dX13_fits_41 hl (by decide) rfl (fun ls hl => ?_)
        refine lv_iconst (v := (-1)) hx hb dX13_fits_43 (by decide) ?_
        refine lv_istore (lv' := [(5, .int (-1)), (4, .int (-1)), (3, .int 0), (0, .ref am), (1, .int p1), (2, .int p2)]) hx hb dX13_fits_44 hl (by decide) rfl (fun ls hl => ?_)
        refine lv_iconst (v := 1) hx hb dX13_fits_46 (by decide) ?_
        refine lv_istore (lv' := [(6, .int 1), (5, .int (-1)), (4, .int (-1)), (3, .int 0), (0, .ref am), (1, .int p1), (2, .int p2)]) hx hb dX13_fits_47 hl (by decide) rfl (fun ls hl => ?_)
        have hl489 : ∀ (N_l489 : Nat) (v71 : Int32) (v72 : Int32) (v73 : Int32) (v74 : Int32) (H : Heap) (locs : List Loc) (F : Nat → Int32) (G : Nat → Int64) (R : Nat → Nat → Int32) (S : Nat → Nat → Int64), (v71.toInt ≤ 1000) → ((-1) ≤ v73.toInt) → (0 ≤ v74.toInt) → (0 ≤ v71.toInt + (-1) * v72.toInt + (-1)) → (0 ≤ v71.toInt + (-1) * v74.toInt + (-1)) → (0 ≤ v72.toInt + (-1) * v73.toInt) → (0 ≤ v72.toInt + (-1) * v74.toInt + 1) → (mz_S D cy ad am F G R S H) → (va_S (mz_W ad am) s.heap H locs) → (mz_IF true F) → (mz_IG G) → (mz_IR [] true R) → (∀ k : Nat, k ∉ ([0, 34, 38] : List Nat) → F k = Fa k) → (∀ k : Nat, k ∉ ([39, 40] : List Nat) → G k = Ga k) → (∀ k : Nat, k ∉ ([59] : List Nat) → R k = Ra k) → (F 0 = 0) → ((-1) * v71.toInt + 1000 < (N_l489 : Int)) → ∀ ls : Array Slot, lv_has ls 7 [(6, .int v71), (5, .int v72), (4, .int v73), (3, .int v74), (0, .ref am), (1, .int p1), (2, .int p2)] → W p l e ({ frames := 11, cells := 0, slots := 0, locals := 700 }) s m args below meth c H locs 0 0 (MQ below (mz_i D cy ad am (fun r F G R S => mz_IF true F ∧ mz_IG G ∧ mz_IR [] true R ∧ (∀ k : Nat, k ∉ ([0, 34, 38] : List Nat) → F k = Fa k) ∧ (∀ k : Nat, k ∉ ([59] : List Nat) → R k = Ra k) ∧ (∀ k : Nat, k ∉ ([39, 40] : List Nat) → G k = Ga k) ∧ (-1) ≤ r.toInt ∧ r.toInt ≤ 999)) args s 0 0 (mz_W ad am)) (F0 m 49 ls []) := by
          intro N_l489
          induction N_l489 with
          | zero => intro v71 v72 v73 v74 H locs F G R S hq0_l489 hq1_l489 hq2_l489 hq3_l489 hq4_l489 hq5_l489 hq6_l489 hM hS hIF hIG hIR hFF hGG hRR hf2 hm_l489 ls hl; exfalso; omega
          | succ N_l489 ih_l489 =>
            intro v71 v72 v73 v74 H locs F G R S hq0_l489 hq1_l489 hq2_l489 hq3_l489 hq4_l489 hq5_l489 hq6_l489 hM hS hIF hIG hIR hFF hGG hRR hf2 hm_l489 ls hl
            refine lv_iload hx hb dX13_fits_49 (lv_at hl 0 rfl) ?_
            refine lv_sipush (v := 1000) hx hb dX13_fits_51 (by decide) ?_
            refine lv_icmp_ge (tgt := 110) hx hb dX13_fits_54 (by decide) (fun c9 => ?_) (fun c9 => ?_)
            · have hc490 : 1000 ≤ v71.toInt := (fi_le (show (1000 : Int32).toInt = 1000 by decide) rfl).mp c9
              refine lv_iload_n hx hb dX13_fits_110 rfl (lv_at hl 6 rfl) ?_
              rcases (show p2.toInt = 0 ∨ p2.toInt = 1 ∨ p2.toInt = 2 by omega) with hsw | hsw | hsw
              · refine lv_tableIn (off := 25) (tgt := 136) hx hb dX13_fits_111 (by omega) (by omega) (by rw [hsw]; rfl) (by decide) ?_
                refine lv_iload hx hb dX13_fits_136 (lv_at hl 2 rfl) ?_
                exact mz_iret (v := v73) hx hb hr rfl hlocks ⟨hIF, hIG, hIR, hFF, hRR, hGG, (by omega), (by omega)⟩ hM hS dX13_fits_138
              · refine lv_tableIn (off := 28) (tgt := 139) hx hb dX13_fits_111 (by omega) (by omega) (by rw [hsw]; rfl) (by decide) ?_
                refine lv_iload hx hb dX13_fits_139 (lv_at hl 1 rfl) ?_
                exact mz_iret (v := v72) hx hb hr rfl hlocks ⟨hIF, hIG, hIR, hFF, hRR, hGG, (by omega), (by omega)⟩ hM hS dX13_fits_141
              · refine lv_tableIn (off := 31) (tgt := 142) hx hb dX13_fits_111 (by omega) (by omega) (by rw [hsw]; rfl) (by decide) ?_
                refine lv_iload_n hx hb dX13_fits_142 rfl (lv_at hl 3 rfl) ?_
                exact mz_iret (v := v74) hx hb hr rfl hlocks ⟨hIF, hIG, hIR, hFF, hRR, hGG, (by omega), (by omega)⟩ hM hS dX13_fits_143
            · have hc490 : ¬ (1000 ≤ v71.toInt) := fun h9 => c9 ((fi_le (show (1000 : Int32).toInt = 1000 by decide) rfl).mpr h9)
              refine lv_aload_n hx hb dX13_fits_57 rfl (lv_at hl 4 rfl) ?_
              refine mz_getR hx hb htl hown hK hM 59 (Nat.le_of_ble_eq_true rfl) (Nat.le_of_ble_eq_true rfl) (htl _ mw_238) (fun _ h9 => h9) dX13_fits_58 ?_
              refine lv_iload hx hb dX13_fits_61 (lv_at hl 0 rfl) ?_
              refine lv_aload_n hx hb dX13_fits_63 rfl (lv_at hl 4 rfl) ?_
              refine lv_iload hx hb dX13_fits_64 (lv_at hl 0 rfl) ?_
              refine lv_iload_n hx hb dX13_fits_66 rfl (lv_at hl 5 rfl) ?_
              refine mz_Vi (As := [.int v71, .int p1]) (rest := [.int v71, .ref (ad 59)]) ⟨hx, hb, hml, hown, hts⟩ hK hM hS (k_X13_leftOf l D cy ld ad am hD _ _ _ _ v71 p1 hIF hIG hIR) ⟨callB_of 2 hts (wl_in mw_1561) rfl rfl rfl (htl _ mw_5) (htl _ mw_1558) hd_yX13_leftOf ⟨(Nat.le_of_ble_eq_true rfl), (Nat.le_of_ble_eq_true rfl)⟩, htl _ mw_1559, htl _ mw_1560⟩ rfl hl.1 rfl (Nat.le_of_ble_eq_true rfl) dX13_fits_67 ⟨(Nat.le_of_ble_eq_true rfl), (Nat.le_of_ble_eq_true rfl)⟩ (fun v514 H locs F G R S hpo hM hS => ?_)
              obtain ⟨hIF, hIG, hIR, hfr9, hrr9, hgr9⟩ := hpo
              have hq_v514 := tk_rng v514
              have hFF := mz_fr (K := [0, 34, 38]) (Fa := Fa) hfr9 hFF (by decide)
              have hRR := mz_fr (K := [59]) (Fa := Ra) hrr9 hRR (by decide)
              have hGG := mz_fr (K := [39, 40]) (Fa := Ga) hgr9 hGG (by decide)
              have hf2 := (hfr9 0 (by decide)).trans hf2
              refine mz_iast (x := v514) hx hb hK hD hM hS 59 (Nat.le_of_ble_eq_true rfl) rfl (nn := 1000) rfl rfl (by omega) (by omega) dX13_fits_70 (fun H locs R hM hS hw9 hj9 => ?_)
              have hIR := hIR.put hw9 hj9 trivial
              have hRR := mz_frp (K := [59]) (Fa := Ra) hj9 hRR (by decide)
              refine lv_aload_n hx hb dX13_fits_71 rfl (lv_at hl 4 rfl) ?_
              refine mz_getR hx hb htl hown hK hM 59 (Nat.le_of_ble_eq_true rfl) (Nat.le_of_ble_eq_true rfl) (htl _ mw_238) (fun _ h9 => h9) dX13_fits_72 ?_
              refine lv_iload hx hb dX13_fits_75 (lv_at hl 0 rfl) ?_
              refine mz_iald hx hb hK hM 59 (Nat.le_of_ble_eq_true rfl) rfl (nn := 1000) rfl rfl (by omega) (by omega) dX13_fits_77 (fun v517 e_v517 => ?_)
              have hq_v517 := tk_rng v517
              refine lv_iconst (v := (-1)) hx hb dX13_fits_78 (by decide) ?_
              have hj530 : ∀ (v527 : Int32) (v528 : Int32) (v529 : Int32), (0 ≤ v527.toInt + (-1) * v528.toInt) → (0 ≤ v527.toInt + (-1) * v529.toInt + 1) → (0 ≤ (-1) * v527.toInt + v71.toInt) → (0 ≤ v527.toInt + (-1) * v72.toInt) → (0 ≤ v528.toInt + (-1) * v73.toInt) → (0 ≤ (-1) * v529.toInt + v74.toInt + 1) → (0 ≤ v529.toInt + (-1) * v74.toInt) → ∀ ls : Array Slot, lv_has ls 7 [(6, .int v71), (5, .int v527), (4, .int v528), (3, .int v529), (0, .ref am), (1, .int p1), (2, .int p2)] → W p l e ({ frames := 11, cells := 0, slots := 0, locals := 700 }) s m args below meth c H locs 0 0 (MQ below (mz_i D cy ad am (fun r F G R S => mz_IF true F ∧ mz_IG G ∧ mz_IR [] true R ∧ (∀ k : Nat, k ∉ ([0, 34, 38] : List Nat) → F k = Fa k) ∧ (∀ k : Nat, k ∉ ([59] : List Nat) → R k = Ra k) ∧ (∀ k : Nat, k ∉ ([39, 40] : List Nat) → G k = Ga k) ∧ (-1) ≤ r.toInt ∧ r.toInt ≤ 999)) args s 0 0 (mz_W ad am)) (F0 m 104 ls []) := by
                intro v527 v528 v529 hq0_j530 hq1_j530 hq2_j530 hq3_j530 hq4_j530 hq5_j530 hq6_j530 ls hl
                obtain ⟨v531, h_v531, e_v531⟩ := tk_inc v71 1 (by decide) (by omega) (by omega)
                refine lv_iinc (v := v531) (lv' := [(6, .int v531), (5, .int v527), (4, .int v528), (3, .int v529), (0, .ref am), (1, .int p1), (2, .int p2)]) hx hb dX13_fits_104 hl (k := 0) rfl e_v531 (by decide) rfl (fun ls hl => ?_)
                refine lv_goto (tgt := 49) hx hb dX13_fits_107 (by decide) ?_
                exact ih_l489 v531 v527 v528 v529 _ _ _ _ _ _ (by omega) (by omega) (by omega) (by omega) (by omega) (by omega) (by omega) hM hS hIF hIG hIR hFF hGG hRR hf2 (by omega) _ (lv_sub hl [0, 1, 2, 3, 4, 5, 6] rfl)
              refine lv_icmp_eq (tgt := 104) hx hb dX13_fits_79 (by decide) (fun c9 => ?_) (fun c9 => ?_)
              · have hc518 : v517.toInt = (-1) := (fi_eq rfl (show ((-1) : Int32).toInt = (-1) by decide)).mp c9
                exact hj530 v72 v73 v74 (by omega) (by omega) (by omega) (by omega) (by omega) (by omega) (by omega) _ (lv_sub hl [0, 1, 2, 3, 4, 5, 6] rfl)
              · have hc518 : ¬ (v517.toInt = (-1)) := fun h9 => c9 ((fi_eq rfl (show ((-1) : Int32).toInt = (-1) by decide)).mpr h9)
                obtain ⟨v532, h_v532, e_v532⟩ := tk_inc v74 1 (by decide) (by omega) (by omega)
                refine lv_iinc (v := v532) (lv' := [(3, .int v532), (6, .int v71), (5, .int v72), (4, .int v73), (0, .ref am), (1, .int p1), (2, .int p2)]) hx hb dX13_fits_82 hl (k := 3) rfl e_v532 (by decide) rfl (fun ls hl => ?_)
                refine lv_iload hx hb dX13_fits_85 (lv_at hl 3 rfl) ?_
                refine lv_iconst (v := (-1)) hx hb dX13_fits_87 (by decide) ?_
                have hj536 : ∀ (v535 : Int32), (0 ≤ v535.toInt) → (0 ≤ (-1) * v535.toInt + v71.toInt) → (0 ≤ v535.toInt + (-1) * v73.toInt) → ∀ ls : Array Slot, lv_has ls 7 [(3, .int v532), (6, .int v71), (0, .ref am), (1, .int p1), (2, .int p2)] → W p l e ({ frames := 11, cells := 0, slots := 0, locals := 700 }) s m args below meth c H locs 0 0 (MQ below (mz_i D cy ad am (fun r F G R S => mz_IF true F ∧ mz_IG G ∧ mz_IR [] true R ∧ (∀ k : Nat, k ∉ ([0, 34, 38] : List Nat) → F k = Fa k) ∧ (∀ k : Nat, k ∉ ([59] : List Nat) → R k = Ra k) ∧ (∀ k : Nat, k ∉ ([39, 40] : List Nat) → G k = Ga k) ∧ (-1) ≤ r.toInt ∧ r.toInt ≤ 999)) args s 0 0 (mz_W ad am)) (F0 m 98 ls [.int v535]) := by
                  intro v535 hq0_j536 hq1_j536 hq2_j536 ls hl
                  refine lv_istore (lv' := [(4, .int v535), (3, .int v532), (6, .int v71), (0, .ref am), (1, .int p1), (2, .int p2)]) hx hb dX13_fits_98 hl (by decide) rfl (fun ls hl => ?_)
                  refine lv_iload hx hb dX13_fits_100 (lv_at hl 2 rfl) ?_
                  refine lv_istore (lv' := [(5, .int v71), (4, .int v535), (3, .int v532), (6, .int v71), (0, .ref am), (1, .int p1), (2, .int p2)]) hx hb dX13_fits_102 hl (by decide) rfl (fun ls hl => ?_)
                  exact hj530 v71 v535 v532 (by omega) (by omega) (by omega) (by omega) (by omega) (by omega) (by omega) _ (lv_sub hl [3, 0, 1, 2, 4, 5, 6] rfl)
                refine lv_icmp_ne (tgt := 96) hx hb dX13_fits_88 (by decide) (fun c9 => ?_) (fun c9 => ?_)
                · have hc533 : ¬ (v73.toInt = (-1)) := fun h9 => c9 ((fi_eq rfl (show ((-1) : Int32).toInt = (-1) by decide)).mpr h9)
                  refine lv_iload hx hb dX13_fits_96 (lv_at hl 3 rfl) ?_
                  exact hj536 v73 (by omega) (by omega) (by omega) _ (lv_sub hl [0, 1, 4, 5, 6] rfl)
                · have hc533 : v73.toInt = (-1) := (fi_eq rfl (show ((-1) : Int32).toInt = (-1) by decide)).mp c9
                  refine lv_iload hx hb dX13_fits_91 (lv_at hl 1 rfl) ?_
                  refine lv_goto (tgt := 98) hx hb dX13_fits_93 (by decide) ?_
                  exact hj536 v71 (by omega) (by omega) (by omega) _ (lv_sub hl [0, 1, 4, 5, 6] rfl)
        have hk_1 : (1 : Int32).toInt = 1 := by decide
        have hk_m1 : ((-1) : Int32).toInt = (-1) := by decide
        have hk_m1 : ((-1) : Int32).toInt = (-1) := by decide
        have hk_0 : (0 : Int32).toInt = 0 := by decide
        exact hl489 1000 1 (-1) (-1) 0 _ _ _ _ _ _ (by omega) (by omega) (by omega) (by omega) (by omega) (by omega) (by omega) hM hS hIF hIG hIR hFF (fun _ _ => rfl) (fun _ _ => rfl) hf2 (by omega) _ (lv_sub hl [0, 1, 2, 3, 4, 5, 6] rfl)
      · have hc18 : ¬ (p2.toInt ≤ 2) := fun h9 => c9 ((fi_le rfl (show (2 : Int32).toInt = 2 by decide)).mpr h9)
        refine lv_aload_n hx hb dX13_fits_26 rfl (lv_at hl 0 rfl) ?_
        refine lv_iload_n hx hb dX13_fits_27 rfl (lv_at hl 2 rfl) ?_
        refine lv_iconst (v := 3) hx hb dX13_fits_28 (by decide) ?_
        refine lv_isub hx hb dX13_fits_29 ?_
        refine tk_sub rfl (show (3 : Int32).toInt = 3 by decide) (by omega) (by omega) (fun v537 h_v537 => ?_)
        refine mz_Vj (As := [.int v537]) (rest := []) ⟨hx, hb, hml, hown, hts⟩ hK hM hS (k_X13_isSinger l D cy ld ad am hD _ _ _ _ v537 (hIF.weak) hIG hIR) ⟨callB_of 1 hts (wl_in mw_320) rfl rfl rfl (htl _ mw_5) (htl _ mw_317) hd_yX13_isSinger ⟨(Nat.le_of_ble_eq_true rfl), (Nat.le_of_ble_eq_true rfl)⟩, htl _ mw_318, htl _ mw_319⟩ rfl hl.1 rfl (Nat.le_of_ble_eq_true rfl) dX13_fits_30 ⟨(Nat.le_of_ble_eq_true rfl), (Nat.le_of_ble_eq_true rfl)⟩ (fun v538 H locs hpo hM hS => ?_)
        obtain ⟨hpo539, hpo540, hpo541, hpo542, hpo543⟩ := hpo
        have hq_v538 := tk_rng v538
        refine lv_if_ne (tgt := 38) hx hb dX13_fits_33 (by decide) (fun c9 => ?_) (fun c9 => ?_)
        · have hc545 : ¬ (v538.toInt = 0) := fun h9 => c9 ((fi_eq rfl (show (0 : Int32).toInt = 0 by decide)).mpr h9)
          have hwk_546 : v537.toInt ≤ 7 := by omega
          refine lv_iconst (v := 0) hx hb dX13_fits_38 (by decide) ?_
          refine lv_istore_n (lv' := [(3, .int 0), (0, .ref am), (1, .int p1), (2, .int p2)]) hx hb dX13_fits_39 rfl hl (by decide) rfl (fun ls hl => ?_)
          refine lv_iconst (v := (-1)) hx hb dX13_fits_40 (by decide) ?_
          refine lv_istore (lv' := [(4, .int (-1)), (3, .int 0), (0, .ref am), (1, .int p1), (2, .int p2)]) hx hb dX13_fits_41 hl (by decide) rfl (fun ls hl => ?_)
          refine lv_iconst (v := (-1)) hx hb dX13_fits_43 (by decide) ?_
          refine lv_istore (lv' := [(5, .int (-1)), (4, .int (-1)), (3, .int 0), (0, .ref am), (1, .int p1), (2, .int p2)]) hx hb dX13_fits_44 hl (by decide) rfl (fun ls hl => ?_)
          refine lv_iconst (v := 1) hx hb dX13_fits_46 (by decide) ?_
          refine lv_istore (lv' := [(6, .int 1), (5, .int (-1)), (4, .int (-1)), (3, .int 0), (0, .ref am), (1, .int p1), (2, .int p2)]) hx hb dX13_fits_47 hl (by decide) rfl (fun ls hl => ?_)
          have hl1023 : ∀ (N_l1023 : Nat) (v547 : Int32) (v548 : Int32) (v549 : Int32) (v550 : Int32) (H : Heap) (locs : List Loc) (F : Nat → Int32) (G : Nat → Int64) (R : Nat → Nat → Int32) (S : Nat → Nat → Int64), (v547.toInt ≤ 1000) → ((-1) ≤ v549.toInt) → (0 ≤ v550.toInt) → (0 ≤ v547.toInt + (-1) * v548.toInt + (-1)) → (0 ≤ v547.toInt + (-1) * v550.toInt + (-1)) → (0 ≤ v548.toInt + (-1) * v549.toInt) → (0 ≤ v548.toInt + (-1) * v550.toInt + 1) → (mz_S D cy ad am F G R S H) → (va_S (mz_W ad am) s.heap H locs) → (mz_IF true F) → (mz_IG G) → (mz_IR [] true R) → (∀ k : Nat, k ∉ ([0, 34, 38] : List Nat) → F k = Fa k) → (∀ k : Nat, k ∉ ([39, 40] : List Nat) → G k = Ga k) → (∀ k : Nat, k ∉ ([59] : List Nat) → R k = Ra k) → (F 0 = 0) → ((-1) * v547.toInt + 1000 < (N_l1023 : Int)) → ∀ ls : Array Slot, lv_has ls 7 [(6, .int v547), (5, .int v548), (4, .int v549), (3, .int v550), (0, .ref am), (1, .int p1), (2, .int p2)] → W p l e ({ frames := 11, cells := 0, slots := 0, locals := 700 }) s m args below meth c H locs 0 0 (MQ below (mz_i D cy ad am (fun r F G R S => mz_IF true F ∧ mz_IG G ∧ mz_IR [] true R ∧ (∀ k : Nat, k ∉ ([0, 34, 38] : List Nat) → F k = Fa k) ∧ (∀ k : Nat, k ∉ ([59] : List Nat) → R k = Ra k) ∧ (∀ k : Nat, k ∉ ([39, 40] : List Nat) → G k = Ga k) ∧ (-1) ≤ r.toInt ∧ r.toInt ≤ 999)) args s 0 0 (mz_W ad am)) (F0 m 49 ls []) := by
            intro N_l1023
            induction N_l1023 with
            | zero => intro v547 v548 v549 v550 H locs F G R S hq0_l1023 hq1_l1023 hq2_l1023 hq3_l1023 hq4_l1023 hq5_l1023 hq6_l1023 hM hS hIF hIG hIR hFF hGG hRR hf2 hm_l1023 ls hl; exfalso; omega
            | succ N_l1023 ih_l1023 =>
              intro v547 v548 v549 v550 H locs F G R S hq0_l1023 hq1_l1023 hq2_l1023 hq3_l1023 hq4_l1023 hq5_l1023 hq6_l1023 hM hS hIF hIG hIR hFF hGG hRR hf2 hm_l1023 ls hl
              refine lv_iload hx hb dX13_fits_49 (lv_at hl 0 rfl) ?_
              refine lv_sipush (v := 1000) hx hb dX13_fits_51 (by decide) ?_
              refine lv_icmp_ge (tgt := 110) hx hb dX13_fits_54 (by decide) (fun c9 => ?_) (fun c9 => ?_)
              · have hc1024 : 1000 ≤ v547.toInt := (fi_le (show (1000 : Int32).toInt = 1000 by decide) rfl).mp c9
                refine lv_iload_n hx hb dX13_fits_110 rfl (lv_at hl 6 rfl) ?_
                have hsw : 2 < p2.toInt := by omega
                refine lv_tableOut (tgt := 144) hx hb dX13_fits_111 (by omega) (by decide) ?_
                refine lv_aload_n hx hb dX13_fits_144 rfl (lv_at hl 4 rfl) ?_
                refine lv_iload_n hx hb dX13_fits_145 rfl (lv_at hl 6 rfl) ?_
                refine lv_iconst (v := 3) hx hb dX13_fits_146 (by decide) ?_
                refine lv_isub hx hb dX13_fits_147 ?_
                refine tk_sub rfl (show (3 : Int32).toInt = 3 by decide) (by omega) (by omega) (fun v1048 h_v1048 => ?_)
                refine lv_iload_n hx hb dX13_fits_148 rfl (lv_at hl 5 rfl) ?_
                refine mz_Vi (As := [.int v1048, .int p1]) (rest := []) ⟨hx, hb, hml, hown, hts⟩ hK hM hS (k_X13_nextVerse l D cy ld ad am hD _ _ _ _ v1048 p1 hIF hIG hIR (by omega) (by omega)) ⟨callB_of 2 hts (wl_in mw_1569) rfl rfl rfl (htl _ mw_5) (htl _ mw_1566) hd_yX13_nextVerse ⟨(Nat.le_of_ble_eq_true rfl), (Nat.le_of_ble_eq_true rfl)⟩, htl _ mw_1567, htl _ mw_1568⟩ rfl hl.1 rfl (Nat.le_of_ble_eq_true rfl) dX13_fits_149 ⟨(Nat.le_of_ble_eq_true rfl), (Nat.le_of_ble_eq_true rfl)⟩ (fun v1049 H locs F G R S hpo hM hS => ?_)
                obtain ⟨hIF, hIG, hIR, hfr9, hrr9, hgr9, hpo1050, hpo1051⟩ := hpo
                have hq_v1049 := tk_rng v1049
                have hFF := mz_fr (K := [0, 34, 38]) (Fa := Fa) hfr9 hFF (by decide)
                have hRR := mz_fr (K := [59]) (Fa := Ra) hrr9 hRR (by decide)
                have hGG := mz_fr (K := [39, 40]) (Fa := Ga) hgr9 hGG (by decide)
                have hf2 := (hfr9 0 (by decide)).trans hf2
                exact mz_iret (v := v1049) hx hb hr rfl hlocks ⟨hIF, hIG, hIR, hFF, hRR, hGG, (by omega), (by omega)⟩ hM hS dX13_fits_152
              · have hc1024 : ¬ (1000 ≤ v547.toInt) := fun h9 => c9 ((fi_le (show (1000 : Int32).toInt = 1000 by decide) rfl).mpr h9)
                refine lv_aload_n hx hb dX13_fits_57 rfl (lv_at hl 4 rfl) ?_
                refine mz_getR hx hb htl hown hK hM 59 (Nat.le_of_ble_eq_true rfl) (Nat.le_of_ble_eq_true rfl) (htl _ mw_238) (fun _ h9 => h9) dX13_fits_58 ?_
                refine lv_iload hx hb dX13_fits_61 (lv_at hl 0 rfl) ?_
                refine lv_aload_n hx hb dX13_fits_63 rfl (lv_at hl 4 rfl) ?_
                refine lv_iload hx hb dX13_fits_64 (lv_at hl 0 rfl) ?_
                refine lv_iload_n hx hb dX13_fits_66 rfl (lv_at hl 5 rfl) ?_
                refine mz_Vi (As := [.int v547, .int p1]) (rest := [.int v547, .ref (ad 59)]) ⟨hx, hb, hml, hown, hts⟩ hK hM hS (k_X13_leftOf l D cy ld ad am hD _ _ _ _ v547 p1 hIF hIG hIR) ⟨callB_of 2 hts (wl_in mw_1561) rfl rfl rfl (htl _ mw_5) (htl _ mw_1558) hd_yX13_leftOf ⟨(Nat.le_of_ble_eq_true rfl), (Nat.le_of_ble_eq_true rfl)⟩, htl _ mw_1559, htl _ mw_1560⟩ rfl hl.1 rfl (Nat.le_of_ble_eq_true rfl) dX13_fits_67 ⟨(Nat.le_of_ble_eq_true rfl), (Nat.le_of_ble_eq_true rfl)⟩ (fun v1053 H locs F G R S hpo hM hS => ?_)
                obtain ⟨hIF, hIG, hIR, hfr9, hrr9, hgr9⟩ := hpo
                have hq_v1053 := tk_rng v1053
                have hFF := mz_fr (K := [0, 34, 38]) (Fa := Fa) hfr9 hFF (by decide)
                have hRR := mz_fr (K := [59]) (Fa := Ra) hrr9 hRR (by decide)
                have hGG := mz_fr (K := [39, 40]) (Fa := Ga) hgr9 hGG (by decide)
                have hf2 := (hfr9 0 (by decide)).trans hf2
                refine mz_iast (x := v1053) hx hb hK hD hM hS 59 (Nat.le_of_ble_eq_true rfl) rfl (nn := 1000) rfl rfl (by omega) (by omega) dX13_fits_70 (fun H locs R hM hS hw9 hj9 => ?_)
                have hIR := hIR.put hw9 hj9 trivial
                have hRR := mz_frp (K := [59]) (Fa := Ra) hj9 hRR (by decide)
                refine lv_aload_n hx hb dX13_fits_71 rfl (lv_at hl 4 rfl) ?_
                refine mz_getR hx hb htl hown hK hM 59 (Nat.le_of_ble_eq_true rfl) (Nat.le_of_ble_eq_true rfl) (htl _ mw_238) (fun _ h9 => h9) dX13_fits_72 ?_
                refine lv_iload hx hb dX13_fits_75 (lv_at hl 0 rfl) ?_
                refine mz_iald hx hb hK hM 59 (Nat.le_of_ble_eq_true rfl) rfl (nn := 1000) rfl rfl (by omega) (by omega) dX13_fits_77 (fun v1056 e_v1056 => ?_)
                have hq_v1056 := tk_rng v1056
                refine lv_iconst (v := (-1)) hx hb dX13_fits_78 (by decide) ?_
                have hj1069 : ∀ (v1066 : Int32) (v1067 : Int32) (v1068 : Int32), (0 ≤ v1066.toInt + (-1) * v1067.toInt) → (0 ≤ v1066.toInt + (-1) * v1068.toInt + 1) → (0 ≤ (-1) * v1066.toInt + v547.toInt) → (0 ≤ v1066.toInt + (-1) * v548.toInt) → (0 ≤ v1067.toInt + (-1) * v549.toInt) → (0 ≤ (-1) * v1068.toInt + v550.toInt + 1) → (0 ≤ v1068.toInt + (-1) * v550.toInt) → ∀ ls : Array Slot, lv_has ls 7 [(6, .int v547), (5, .int v1066), (4, .int v1067), (3, .int v1068), (0, .ref am), (1, .int p1), (2, .int p2)] → W p l e ({ frames := 11, cells := 0, slots := 0, locals := 700 }) s m args below meth c H locs 0 0 (MQ below (mz_i D cy ad am (fun r F G R S => mz_IF true F ∧ mz_IG G ∧ mz_IR [] true R ∧ (∀ k : Nat, k ∉ ([0, 34, 38] : List Nat) → F k = Fa k) ∧ (∀ k : Nat, k ∉ ([59] : List Nat) → R k = Ra k) ∧ (∀ k : Nat, k ∉ ([39, 40] : List Nat) → G k = Ga k) ∧ (-1) ≤ r.toInt ∧ r.toInt ≤ 999)) args s 0 0 (mz_W ad am)) (F0 m 104 ls []) := by
                  intro v1066 v1067 v1068 hq0_j1069 hq1_j1069 hq2_j1069 hq3_j1069 hq4_j1069 hq5_j1069 hq6_j1069 ls hl
                  obtain ⟨v1070, h_v1070, e_v1070⟩ := tk_inc v547 1 (by decide) (by omega) (by omega)
                  refine lv_iinc (v := v1070) (lv' := [(6, .int v1070), (5, .int v1066), (4, .int v1067), (3, .int v1068), (0, .ref am), (1, .int p1), (2, .int p2)]) hx hb dX13_fits_104 hl (k := 0) rfl e_v1070 (by decide) rfl (fun ls hl => ?_)
                  refine lv_goto (tgt := 49) hx hb dX13_fits_107 (by decide) ?_
                  exact ih_l1023 v1070 v1066 v1067 v1068 _ _ _ _ _ _ (by omega) (by omega) (by omega) (by omega) (by omega) (by omega) (by omega) hM hS hIF hIG hIR hFF hGG hRR hf2 (by omega) _ (lv_sub hl [0, 1, 2, 3, 4, 5, 6] rfl)
                refine lv_icmp_eq (tgt := 104) hx hb dX13_fits_79 (by decide) (fun c9 => ?_) (fun c9 => ?_)
                · have hc1057 : v1056.toInt = (-1) := (fi_eq rfl (show ((-1) : Int32).toInt = (-1) by decide)).mp c9
                  exact hj1069 v548 v549 v550 (by omega) (by omega) (by omega) (by omega) (by omega) (by omega) (by omega) _ (lv_sub hl [0, 1, 2, 3, 4, 5, 6] rfl)
                · have hc1057 : ¬ (v1056.toInt = (-1)) := fun h9 => c9 ((fi_eq rfl (show ((-1) : Int32).toInt = (-1) by decide)).mpr h9)
                  obtain ⟨v1071, h_v1071, e_v1071⟩ := tk_inc v550 1 (by decide) (by omega) (by omega)
                  refine lv_iinc (v := v1071) (lv' := [(3, .int v1071), (6, .int v547), (5, .int v548), (4, .int v549), (0, .ref am), (1, .int p1), (2, .int p2)]) hx hb dX13_fits_82 hl (k := 3) rfl e_v1071 (by decide) rfl (fun ls hl => ?_)
                  refine lv_iload hx hb dX13_fits_85 (lv_at hl 3 rfl) ?_
                  refine lv_iconst (v := (-1)) hx hb dX13_fits_87 (by decide) ?_
                  have hj1075 : ∀ (v1074 : Int32), (0 ≤ v1074.toInt) → (0 ≤ (-1) * v1074.toInt + v547.toInt) → (0 ≤ v1074.toInt + (-1) * v549.toInt) → ∀ ls : Array Slot, lv_has ls 7 [(3, .int v1071), (6, .int v547), (0, .ref am), (1, .int p1), (2, .int p2)] → W p l e ({ frames := 11, cells := 0, slots := 0, locals := 700 }) s m args below meth c H locs 0 0 (MQ below (mz_i D cy ad am (fun r F G R S => mz_IF true F ∧ mz_IG G ∧ mz_IR [] true R ∧ (∀ k : Nat, k ∉ ([0, 34, 38] : List Nat) → F k = Fa k) ∧ (∀ k : Nat, k ∉ ([59] : List Nat) → R k = Ra k) ∧ (∀ k : Nat, k ∉ ([39, 40] : List Nat) → G k = Ga k) ∧ (-1) ≤ r.toInt ∧ r.toInt ≤ 999)) args s 0 0 (mz_W ad am)) (F0 m 98 ls [.int v1074]) := by
                    intro v1074 hq0_j1075 hq1_j1075 hq2_j1075 ls hl
                    refine lv_istore (lv' := [(4, .int v1074), (3, .int v1071), (6, .int v547), (0, .ref am), (1, .int p1), (2, .int p2)]) hx hb dX13_fits_98 hl (by decide) rfl (fun ls hl => ?_)
                    refine lv_iload hx hb dX13_fits_100 (lv_at hl 2 rfl) ?_
                    refine lv_istore (lv' := [(5, .int v547), (4, .int v1074), (3, .int v1071), (6, .int v547), (0, .ref am), (1, .int p1), (2, .int p2)]) hx hb dX13_fits_102 hl (by decide) rfl (fun ls hl => ?_)
                    exact hj1069 v547 v1074 v1071 (by omega) (by omega) (by omega) (by omega) (by omega) (by omega) (by omega) _ (lv_sub hl [3, 0, 1, 2, 4, 5, 6] rfl)
                  refine lv_icmp_ne (tgt := 96) hx hb dX13_fits_88 (by decide) (fun c9 => ?_) (fun c9 => ?_)
                  · have hc1072 : ¬ (v549.toInt = (-1)) := fun h9 => c9 ((fi_eq rfl (show ((-1) : Int32).toInt = (-1) by decide)).mpr h9)
                    refine lv_iload hx hb dX13_fits_96 (lv_at hl 3 rfl) ?_
                    exact hj1075 v549 (by omega) (by omega) (by omega) _ (lv_sub hl [0, 1, 4, 5, 6] rfl)
                  · have hc1072 : v549.toInt = (-1) := (fi_eq rfl (show ((-1) : Int32).toInt = (-1) by decide)).mp c9
                    refine lv_iload hx hb dX13_fits_91 (lv_at hl 1 rfl) ?_
                    refine lv_goto (tgt := 98) hx hb dX13_fits_93 (by decide) ?_
                    exact hj1075 v547 (by omega) (by omega) (by omega) _ (lv_sub hl [0, 1, 4, 5, 6] rfl)
          have hk_1 : (1 : Int32).toInt = 1 := by decide
          have hk_m1 : ((-1) : Int32).toInt = (-1) := by decide
          have hk_m1 : ((-1) : Int32).toInt = (-1) := by decide
          have hk_0 : (0 : Int32).toInt = 0 := by decide
          exact hl1023 1000 1 (-1) (-1) 0 _ _ _ _ _ _ (by omega) (by omega) (by omega) (by omega) (by omega) (by omega) (by omega) hM hS hIF hIG hIR hFF (fun _ _ => rfl) (fun _ _ => rfl) hf2 (by omega) _ (lv_sub hl [0, 1, 2, 3, 4, 5, 6] rfl)
        · have hc545 : v538.toInt = 0 := (fi_eq rfl (show (0 : Int32).toInt = 0 by decide)).mp c9
          refine lv_iconst (v := (-1)) hx hb dX13_fits_36 (by decide) ?_
          have hk_m1 : ((-1) : Int32).toInt = (-1) := by decide
          exact mz_iret (v := (-1)) hx hb hr rfl hlocks ⟨hIF, hIG, hIR, hFF, (fun _ _ => rfl), (fun _ _ => rfl), (by omega), (by omega)⟩ hM hS dX13_fits_37
end
section
theorem dX13_giveBack_0 : decode cX13_giveBack 0 = .ok (.aload_n 0, 1) := by decide +kernel
theorem dX13_giveBack_1 : decode cX13_giveBack 1 = .ok (.bipush 22, 2) := by decide +kernel
theorem dX13_giveBack_3 : decode cX13_giveBack 3 = .ok (.invokevirtual 187, 3) := by decide +kernel
theorem dX13_giveBack_6 : decode cX13_giveBack 6 = .ok (.iconst 0, 1) := by decide +kernel
theorem dX13_giveBack_7 : decode cX13_giveBack 7 = .ok (.istore_n 2, 1) := by decide +kernel
theorem dX13_giveBack_8 : decode cX13_giveBack 8 = .ok (.iload_n 2, 1) := by decide +kernel
theorem dX13_giveBack_9 : decode cX13_giveBack 9 = .ok (.sipush 832, 3) := by decide +kernel
theorem dX13_giveBack_12 : decode cX13_giveBack 12 = .ok (.if_icmp .ge 21, 3) := by decide +kernel
theorem dX13_giveBack_33 : decode cX13_giveBack 33 = .ok (.iconst 0, 1) := by decide +kernel
theorem dX13_giveBack_34 : decode cX13_giveBack 34 = .ok (.istore_n 2, 1) := by decide +kernel
theorem dX13_giveBack_35 : decode cX13_giveBack 35 = .ok (.iload_n 2, 1) := by decide +kernel
theorem dX13_giveBack_36 : decode cX13_giveBack 36 = .ok (.bipush 16, 2) := by decide +kernel
theorem dX13_giveBack_38 : decode cX13_giveBack 38 = .ok (.if_icmp .ge 21, 3) := by decide +kernel
theorem dX13_giveBack_59 : decode cX13_giveBack 59 = .ok (.aload_n 0, 1) := by decide +kernel
theorem dX13_giveBack_60 : decode cX13_giveBack 60 = .ok (.iload_n 1, 1) := by decide +kernel
theorem dX13_giveBack_61 : decode cX13_giveBack 61 = .ok (.putfield 176, 3) := by decide +kernel
theorem dX13_giveBack_64 : decode cX13_giveBack 64 = .ok (.return_, 1) := by decide +kernel
theorem dX13_giveBack_41 : decode cX13_giveBack 41 = .ok (.aload_n 0, 1) := by decide +kernel
theorem dX13_giveBack_42 : decode cX13_giveBack 42 = .ok (.getfield 26, 3) := by decide +kernel
theorem dX13_giveBack_45 : decode cX13_giveBack 45 = .ok (.iload_n 2, 1) := by decide +kernel
theorem dX13_giveBack_46 : decode cX13_giveBack 46 = .ok (.aload_n 0, 1) := by decide +kernel
theorem dX13_giveBack_47 : decode cX13_giveBack 47 = .ok (.getfield 32, 3) := by decide +kernel
theorem dX13_giveBack_50 : decode cX13_giveBack 50 = .ok (.iload_n 2, 1) := by decide +kernel
theorem dX13_giveBack_51 : decode cX13_giveBack 51 = .ok (.iaload, 1) := by decide +kernel
theorem dX13_giveBack_52 : decode cX13_giveBack 52 = .ok (.iastore, 1) := by decide +kernel
theorem dX13_giveBack_53 : decode cX13_giveBack 53 = .ok (.iinc 2 1, 3) := by decide +kernel
theorem dX13_giveBack_56 : decode cX13_giveBack 56 = .ok (.goto (-21), 3) := by decide +kernel
theorem dX13_giveBack_15 : decode cX13_giveBack 15 = .ok (.aload_n 0, 1) := by decide +kernel
theorem dX13_giveBack_16 : decode cX13_giveBack 16 = .ok (.getfield 23, 3) := by decide +kernel
theorem dX13_giveBack_19 : decode cX13_giveBack 19 = .ok (.iload_n 2, 1) := by decide +kernel
theorem dX13_giveBack_20 : decode cX13_giveBack 20 = .ok (.aload_n 0, 1) := by decide +kernel
theorem dX13_giveBack_21 : decode cX13_giveBack 21 = .ok (.getfield 29, 3) := by decide +kernel
theorem dX13_giveBack_24 : decode cX13_giveBack 24 = .ok (.iload_n 2, 1) := by decide +kernel
theorem dX13_giveBack_25 : decode cX13_giveBack 25 = .ok (.iaload, 1) := by decide +kernel
theorem dX13_giveBack_26 : decode cX13_giveBack 26 = .ok (.iastore, 1) := by decide +kernel
theorem dX13_giveBack_27 : decode cX13_giveBack 27 = .ok (.iinc 2 1, 3) := by decide +kernel
theorem dX13_giveBack_30 : decode cX13_giveBack 30 = .ok (.goto (-22), 3) := by decide +kernel
set_option maxHeartbeats 4000000 in
set_option maxRecDepth 100000 in
theorem k_X13_giveBack (l : Launch) (D : va_G) (cy : Nat → ClassId) (ld ad : Nat → Nat) (am : Nat) (hD : mz_D ad am) (Fa : Nat → Int32) (Ga : Nat → Int64) (Ra : Nat → Nat → Int32) (Sa : Nat → Nat → Int64) (p1 : Int32) (hIF : mz_IF true Fa) (hIG : mz_IG Ga) (hIR : mz_IR [] true Ra) (hp_0 : 0 ≤ p1.toInt) (hp_1 : p1.toInt ≤ 16) : Met l yX13_giveBack (wl yX13_giveBack cX13_giveBack 3 none) ({ frames := 4, cells := 0, slots := 0, locals := 210 }) (mz_p D cy ld ad am Fa Ga Ra Sa [.ref am, .int p1]) (mz_w D cy ad am (fun F G R S => mz_IF true F ∧ mz_IG G ∧ mz_IR [] true R ∧ (∀ k : Nat, k ∉ ([8] : List Nat) → F k = Fa k) ∧ (∀ k : Nat, k ∉ ([3, 6, 7] : List Nat) → R k = Ra k) ∧ (∀ k : Nat, k ∉ ([] : List Nat) → G k = Ga k) ∧ rK1 (Ra 3) (R 3))) 0 0 (mz_W ad am) := by
  refine mz_met (y := yX13_giveBack) (cc := cX13_giveBack) (maxL := 3) (ret := none) (av := [.ref am, .int p1]) _ (by decide) (Nat.le_of_ble_eq_true rfl) ?_
  intro p e s m args below meth c hx hb hr hml hts htl hown hlocks hK H locs hM hS ls hl
  have hown : s.vm.findClass RX13 = some m.cls := hown
  have hl : lv_has ls 3 [(0, .ref am), (1, .int p1)] := hl
  have hr_p1 := tk_rng p1
  refine lv_aload_n hx hb dX13_giveBack_0 rfl (lv_at hl 0 rfl) ?_
  refine lv_bipush (v := 22) hx hb dX13_giveBack_1 (by decide) ?_
  have hk_22 : (22 : Int32).toInt = 22 := by decide
  refine mz_Vv (As := [.int 22]) (rest := []) ⟨hx, hb, hml, hown, hts⟩ hK hM hS (k_X13_putBack l D cy ld ad am hD _ _ _ _ 22 hIF hIG hIR (by omega) (by omega)) ⟨callB_of 1 hts (wl_in mw_1162) rfl rfl rfl (htl _ mw_5) (htl _ mw_1159) hd_yX13_putBack ⟨(Nat.le_of_ble_eq_true rfl), (Nat.le_of_ble_eq_true rfl)⟩, htl _ mw_1160, htl _ mw_1161⟩ rfl hl.1 rfl (Nat.le_of_ble_eq_true rfl) dX13_giveBack_3 ⟨(Nat.le_of_ble_eq_true rfl), (Nat.le_of_ble_eq_true rfl)⟩ (fun H locs F G R S hpo hM hS => ?_)
  obtain ⟨hIF, hIG, hIR, hfr9, hrr9, hgr9, hrel9⟩ := hpo
  have hFF := mz_fr (K := [8]) (Fa := Fa) hfr9 (fun _ _ => rfl) (by decide)
  have hRR := mz_fr (K := [3, 6, 7]) (Fa := Ra) hrr9 (fun _ _ => rfl) (by decide)
  have hGG := mz_fr (K := []) (Fa := Ga) hgr9 (fun _ _ => rfl) (by decide)
  have hrel := (rK1.refl rfl).trans hrel9
  refine lv_iconst (v := 0) hx hb dX13_giveBack_6 (by decide) ?_
  refine lv_istore_n (lv' := [(2, .int 0), (0, .ref am), (1, .int p1)]) hx hb dX13_giveBack_7 rfl hl (by decide) rfl (fun ls hl => ?_)
  have hI9 := hIR
  have hIR := hIR.hole (X := [6])
  obtain ⟨cf, ecf⟩ : ∃ z : Nat → Int32, R 9 = z := ⟨_, rfl⟩
  obtain ⟨cg, ecg⟩ : ∃ z : Nat → Int32, R 6 = z := ⟨_, rfl⟩
  have hl368 : ∀ (N_l368 : Nat) (v94 : Int32) (H : Heap) (locs : List Loc) (R : Nat → Nat → Int32), (0 ≤ v94.toInt) → (v94.toInt ≤ 832) → (mz_S D cy ad am F G R S H) → (va_S (mz_W ad am) s.heap H locs) → (mz_IR [6] true R) → (∀ k : Nat, k ∉ ([3, 6, 7] : List Nat) → R k = Ra k) → (rK1 (Ra 3) (R 3)) → (R 6 = va_cpy cf cg 0 0 v94.toInt.toNat) → (R 9 = cf) → ((-1) * v94.toInt + 998 < (N_l368 : Int)) → ∀ ls : Array Slot, lv_has ls 3 [(2, .int v94), (0, .ref am), (1, .int p1)] → W p l e ({ frames := 4, cells := 0, slots := 0, locals := 210 }) s m args below meth c H locs 0 0 (MQ below (mz_w D cy ad am (fun F G R S => mz_IF true F ∧ mz_IG G ∧ mz_IR [] true R ∧ (∀ k : Nat, k ∉ ([8] : List Nat) → F k = Fa k) ∧ (∀ k : Nat, k ∉ ([3, 6, 7] : List Nat) → R k = Ra k) ∧ (∀ k : Nat, k ∉ ([] : List Nat) → G k = Ga k) ∧ rK1 (Ra 3) (R 3))) args s 0 0 (mz_W ad am)) (F0 m 8 ls []) := by
    intro N_l368
    induction N_l368 with
    | zero => intro v94 H locs R hq0_l368 hq1_l368 hM hS hIR hRR hrel hcp hcs hm_l368 ls hl; exfalso; omega
    | succ N_l368 ih_l368 =>
      intro v94 H locs R hq0_l368 hq1_l368 hM hS hIR hRR hrel hcp hcs hm_l368 ls hl
      refine lv_iload_n hx hb dX13_giveBack_8 rfl (lv_at hl 0 rfl) ?_
      refine lv_sipush (v := 832) hx hb dX13_giveBack_9 (by decide) ?_
      refine lv_icmp_ge (tgt := 33) hx hb dX13_giveBack_12 (by decide) (fun c9 => ?_) (fun c9 => ?_)
      · have hc369 : 832 ≤ v94.toInt := (fi_le (show (832 : Int32).toInt = 832 by decide) rfl).mp c9
        have e9 : v94.toInt.toNat = 832 := by omega
        rw [e9] at hcp
        have hIR := hIR.close (by rw [hcp]; exact mz_aft (by rw [← ecf]; exact hI9.at 9) (by rw [← ecg]; exact hI9.at 6))
        refine lv_iconst (v := 0) hx hb dX13_giveBack_33 (by decide) ?_
        refine lv_istore_n (lv' := [(2, .int 0), (0, .ref am), (1, .int p1)]) hx hb dX13_giveBack_34 rfl hl (by decide) rfl (fun ls hl => ?_)
        have hl432 : ∀ (N_l432 : Nat) (v373 : Int32) (H : Heap) (locs : List Loc) (R : Nat → Nat → Int32), (v373.toInt ≤ 16) → (0 ≤ v373.toInt) → (mz_S D cy ad am F G R S H) → (va_S (mz_W ad am) s.heap H locs) → (mz_IR [] true R) → (∀ k : Nat, k ∉ ([3, 6, 7] : List Nat) → R k = Ra k) → (rK1 (Ra 3) (R 3)) → ((-1) * v373.toInt + 16 < (N_l432 : Int)) → ∀ ls : Array Slot, lv_has ls 3 [(2, .int v373), (0, .ref am), (1, .int p1)] → W p l e ({ frames := 4, cells := 0, slots := 0, locals := 210 }) s m args below meth c H locs 0 0 (MQ below (mz_w D cy ad am (fun F G R S => mz_IF true F ∧ mz_IG G ∧ mz_IR [] true R ∧ (∀ k : Nat, k ∉ ([8] : List Nat) → F k = Fa k) ∧ (∀ k : Nat, k ∉ ([3, 6, 7] : List Nat) → R k = Ra k) ∧ (∀ k : Nat, k ∉ ([] : List Nat) → G k = Ga k) ∧ rK1 (Ra 3) (R 3))) args s 0 0 (mz_W ad am)) (F0 m 35 ls []) := by
          intro N_l432
          induction N_l432 with
          | zero => intro v373 H locs R hq0_l432 hq1_l432 hM hS hIR hRR hrel hm_l432 ls hl; exfalso; omega
          | succ N_l432 ih_l432 =>
            intro v373 H locs R hq0_l432 hq1_l432 hM hS hIR hRR hrel hm_l432 ls hl
            refine lv_iload_n hx hb dX13_giveBack_35 rfl (lv_at hl 0 rfl) ?_
            refine lv_bipush (v := 16) hx hb dX13_giveBack_36 (by decide) ?_
            refine lv_icmp_ge (tgt := 59) hx hb dX13_giveBack_38 (by decide) (fun c9 => ?_) (fun c9 => ?_)
            · have hc433 : 16 ≤ v373.toInt := (fi_le (show (16 : Int32).toInt = 16 by decide) rfl).mp c9
              refine lv_aload_n hx hb dX13_giveBack_59 rfl (lv_at hl 1 rfl) ?_
              refine lv_iload_n hx hb dX13_giveBack_60 rfl (lv_at hl 2 rfl) ?_
              refine mz_putI (ty := .int) (x := p1) hx hb htl hown hK hD hM hS 8 (Nat.le_of_ble_eq_true rfl) rfl (htl _ mw_289) (fun _ h9 => h9) rfl (tyX13_ok 8 (by decide)) rfl rfl dX13_giveBack_61 (fun H locs F hM hS hf9 hj9 => ?_)
              have hIF := hIF.put hf9 hj9 (show 0 ≤ (p1 : Int32).toInt by omega) (show (p1 : Int32).toInt ≤ 16 by omega) (by decide)
              have hFF := mz_frp (K := [8]) (Fa := Fa) hj9 hFF (by decide)
              have hf438 := hf9
              exact mz_vret hx hb hr hlocks ⟨hIF, hIG, hIR, hFF, hRR, hGG, hrel⟩ hM hS dX13_giveBack_64
            · have hc433 : ¬ (16 ≤ v373.toInt) := fun h9 => c9 ((fi_le (show (16 : Int32).toInt = 16 by decide) rfl).mpr h9)
              refine lv_aload_n hx hb dX13_giveBack_41 rfl (lv_at hl 1 rfl) ?_
              refine mz_getR hx hb htl hown hK hM 7 (Nat.le_of_ble_eq_true rfl) (Nat.le_of_ble_eq_true rfl) (htl _ mw_192) (fun _ h9 => h9) dX13_giveBack_42 ?_
              refine lv_iload_n hx hb dX13_giveBack_45 rfl (lv_at hl 0 rfl) ?_
              refine lv_aload_n hx hb dX13_giveBack_46 rfl (lv_at hl 1 rfl) ?_
              refine mz_getR hx hb htl hown hK hM 10 (Nat.le_of_ble_eq_true rfl) (Nat.le_of_ble_eq_true rfl) (htl _ mw_194) (fun _ h9 => h9) dX13_giveBack_47 ?_
              refine lv_iload_n hx hb dX13_giveBack_50 rfl (lv_at hl 0 rfl) ?_
              refine mz_iald hx hb hK hM 10 (Nat.le_of_ble_eq_true rfl) rfl (nn := 16) rfl rfl (by omega) (by omega) dX13_giveBack_51 (fun v439 e_v439 => ?_)
              have hq_v439 := tk_rng v439
              have he_v439 : 0 ≤ v439.toInt ∧ v439.toInt ≤ 3 := mz_elg (n := 16) (hIR.at 10) e_v439 rfl (by omega) (by omega)
              refine mz_iast (x := v439) hx hb hK hD hM hS 7 (Nat.le_of_ble_eq_true rfl) rfl (nn := 16) rfl rfl (by omega) (by omega) dX13_giveBack_52 (fun H locs R hM hS hw9 hj9 => ?_)
              have hIR := hIR.put hw9 hj9 (mz_elp (hIR.at 7) (show 0 ≤ (v439 : Int32).toInt by omega) (show (v439 : Int32).toInt ≤ 3 by omega))
              have hRR := mz_frp (K := [3, 6, 7]) (Fa := Ra) hj9 hRR (by decide)
              have hrel : rK1 (Ra 3) (R 3) := (hj9 3 (by decide)) ▸ hrel
              have e_v439 : R 10 (v373 : Int32).toNatClampNeg = _ := (congrFun (hj9 10 (by decide)) _).trans e_v439
              obtain ⟨v441, h_v441, e_v441⟩ := tk_inc v373 1 (by decide) (by omega) (by omega)
              refine lv_iinc (v := v441) (lv' := [(2, .int v441), (0, .ref am), (1, .int p1)]) hx hb dX13_giveBack_53 hl (k := 0) rfl e_v441 (by decide) rfl (fun ls hl => ?_)
              refine lv_goto (tgt := 35) hx hb dX13_giveBack_56 (by decide) ?_
              exact ih_l432 v441 _ _ _ (by omega) (by omega) hM hS hIR hRR hrel (by omega) _ (lv_sub hl [0, 1, 2] rfl)
        have hk_0 : (0 : Int32).toInt = 0 := by decide
        exact hl432 17 0 _ _ _ (by omega) (by omega) hM hS hIR hRR hrel (by omega) _ (lv_sub hl [0, 1, 2] rfl)
      · have hc369 : ¬ (832 ≤ v94.toInt) := fun h9 => c9 ((fi_le (show (832 : Int32).toInt = 832 by decide) rfl).mpr h9)
        refine lv_aload_n hx hb dX13_giveBack_15 rfl (lv_at hl 1 rfl) ?_
        refine mz_getR hx hb htl hown hK hM 6 (Nat.le_of_ble_eq_true rfl) (Nat.le_of_ble_eq_true rfl) (htl _ mw_191) (fun _ h9 => h9) dX13_giveBack_16 ?_
        refine lv_iload_n hx hb dX13_giveBack_19 rfl (lv_at hl 0 rfl) ?_
        refine lv_aload_n hx hb dX13_giveBack_20 rfl (lv_at hl 1 rfl) ?_
        refine mz_getR hx hb htl hown hK hM 9 (Nat.le_of_ble_eq_true rfl) (Nat.le_of_ble_eq_true rfl) (htl _ mw_193) (fun _ h9 => h9) dX13_giveBack_21 ?_
        refine lv_iload_n hx hb dX13_giveBack_24 rfl (lv_at hl 0 rfl) ?_
        refine mz_iald hx hb hK hM 9 (Nat.le_of_ble_eq_true rfl) rfl (nn := 832) rfl rfl (by omega) (by omega) dX13_giveBack_25 (fun v442 e_v442 => ?_)
        have hq_v442 := tk_rng v442
        refine mz_iast (x := v442) hx hb hK hD hM hS 6 (Nat.le_of_ble_eq_true rfl) rfl (nn := 1196) rfl rfl (by omega) (by omega) dX13_giveBack_26 (fun H locs R hM hS hw9 hj9 => ?_)
        have hIR := hIR.putX hj9 (by decide)
        have hcp := mz_cps (sp := 0) (dp := 0) (n := v94.toInt.toNat) hw9 hcp (by omega) (by rw [← e_v442, hcs]; congr 1; have h9 := tk_nat (i := v94) rfl (by omega); omega)
        have hcs := (hj9 9 (by decide)).trans hcs
        have hRR := mz_frp (K := [3, 6, 7]) (Fa := Ra) hj9 hRR (by decide)
        have hrel : rK1 (Ra 3) (R 3) := (hj9 3 (by decide)) ▸ hrel
        have e_v442 : R 9 (v94 : Int32).toNatClampNeg = _ := (congrFun (hj9 9 (by decide)) _).trans e_v442
        obtain ⟨v444, h_v444, e_v444⟩ := tk_inc v94 1 (by decide) (by omega) (by omega)
        refine lv_iinc (v := v444) (lv' := [(2, .int v444), (0, .ref am), (1, .int p1)]) hx hb dX13_giveBack_27 hl (k := 0) rfl e_v444 (by decide) rfl (fun ls hl => ?_)
        refine lv_goto (tgt := 8) hx hb dX13_giveBack_30 (by decide) ?_
        exact ih_l368 v444 _ _ _ (by omega) (by omega) hM hS hIR hRR hrel (by rw [show v444.toInt.toNat = v94.toInt.toNat + 1 by omega]; exact hcp) hcs (by omega) _ (lv_sub hl [0, 1, 2] rfl)
  have hk_0 : (0 : Int32).toInt = 0 := by decide
  exact hl368 999 0 _ _ _ (by omega) (by omega) hM hS hIR hRR hrel (by rw [show (0 : Int32).toInt.toNat = 0 by decide, mz_cp0]; exact ecg) ecf (by omega) _ (lv_sub hl [0, 1, 2] rfl)
end
section
theorem dX13_stopped_0 : decode cX13_stopped 0 = .ok (.aload_n 0, 1) := by decide +kernel
theorem dX13_stopped_1 : decode cX13_stopped 1 = .ok (.iconst 0, 1) := by decide +kernel
theorem dX13_stopped_2 : decode cX13_stopped 2 = .ok (.putfield 170, 3) := by decide +kernel
theorem dX13_stopped_5 : decode cX13_stopped 5 = .ok (.aload_n 0, 1) := by decide +kernel
theorem dX13_stopped_6 : decode cX13_stopped 6 = .ok (.getfield 152, 3) := by decide +kernel
theorem dX13_stopped_9 : decode cX13_stopped 9 = .ok (.ireturn, 1) := by decide +kernel
set_option maxHeartbeats 4000000 in
set_option maxRecDepth 100000 in
theorem k_X13_stopped (l : Launch) (D : va_G) (cy : Nat → ClassId) (ld ad : Nat → Nat) (am : Nat) (hD : mz_D ad am) (Fa : Nat → Int32) (Ga : Nat → Int64) (Ra : Nat → Nat → Int32) (Sa : Nat → Nat → Int64) (hIF : mz_IF true Fa) (hIG : mz_IG Ga) (hIR : mz_IR [] true Ra) : Met l yX13_stopped (wl yX13_stopped cX13_stopped 1 (some .int)) ({ frames := 3, cells := 0, slots := 0, locals := 140 }) (mz_p D cy ld ad am Fa Ga Ra Sa [.ref am]) (mz_i D cy ad am (fun r F G R S => mz_IF true F ∧ mz_IG G ∧ mz_IR [] true R ∧ (∀ k : Nat, k ∉ ([0] : List Nat) → F k = Fa k) ∧ (∀ k : Nat, k ∉ ([] : List Nat) → R k = Ra k) ∧ (∀ k : Nat, k ∉ ([] : List Nat) → G k = Ga k))) 0 0 (mz_W ad am) := by
  refine mz_met (y := yX13_stopped) (cc := cX13_stopped) (maxL := 1) (ret := (some .int)) (av := [.ref am]) _ (by decide) (Nat.le_of_ble_eq_true rfl) ?_
  intro p e s m args below meth c hx hb hr hml hts htl hown hlocks hK H locs hM hS ls hl
  have hown : s.vm.findClass RX13 = some m.cls := hown
  have hl : lv_has ls 1 [(0, .ref am)] := hl
  refine lv_aload_n hx hb dX13_stopped_0 rfl (lv_at hl 0 rfl) ?_
  refine lv_iconst (v := 0) hx hb dX13_stopped_1 (by decide) ?_
  have hk_0 : (0 : Int32).toInt = 0 := by decide
  refine mz_putI (ty := .int) (x := 0) hx hb htl hown hK hD hM hS 0 (Nat.le_of_ble_eq_true rfl) rfl (htl _ mw_286) (fun _ h9 => h9) rfl (tyX13_ok 0 (by decide)) rfl rfl dX13_stopped_2 (fun H locs F hM hS hf9 hj9 => ?_)
  have hIF := hIF.put hf9 hj9 (tk_rng _).1 (tk_rng _).2 (by decide)
  have hFF := mz_frp (K := [0]) (Fa := Fa) hj9 (fun _ _ => rfl) (by decide)
  have hf2 := hf9
  refine lv_aload_n hx hb dX13_stopped_5 rfl (lv_at hl 0 rfl) ?_
  refine mz_getI hx hb htl hown hK hM 64 (Nat.le_of_ble_eq_true rfl) rfl (htl _ mw_240) (fun _ h9 => h9) dX13_stopped_6 (fun v4 hf3 => ?_)
  have hq_v4 := tk_rng v4
  exact mz_iret (v := v4) hx hb hr rfl hlocks ⟨hIF, hIG, hIR, hFF, (fun _ _ => rfl), (fun _ _ => rfl)⟩ hM hS dX13_stopped_9
end
