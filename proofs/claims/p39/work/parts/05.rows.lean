theorem dX9_copyFrom_0 : decode cX9_copyFrom 0 = .ok (.aload_n 1, 1) := by decide +kernel
theorem dX9_copyFrom_1 : decode cX9_copyFrom 1 = .ok (.getfield 9, 3) := by decide +kernel
theorem dX9_copyFrom_4 : decode cX9_copyFrom 4 = .ok (.iconst 0, 1) := by decide +kernel
theorem dX9_copyFrom_5 : decode cX9_copyFrom 5 = .ok (.aload_n 0, 1) := by decide +kernel
theorem dX9_copyFrom_6 : decode cX9_copyFrom 6 = .ok (.getfield 9, 3) := by decide +kernel
theorem dX9_copyFrom_9 : decode cX9_copyFrom 9 = .ok (.iconst 0, 1) := by decide +kernel
theorem dX9_copyFrom_10 : decode cX9_copyFrom 10 = .ok (.aload_n 0, 1) := by decide +kernel
theorem dX9_copyFrom_11 : decode cX9_copyFrom 11 = .ok (.getfield 9, 3) := by decide +kernel
theorem dX9_copyFrom_14 : decode cX9_copyFrom 14 = .ok (.arraylength, 1) := by decide +kernel
theorem dX9_copyFrom_15 : decode cX9_copyFrom 15 = .ok (.invokestatic 34, 3) := by decide +kernel
theorem dX9_copyFrom_18 : decode cX9_copyFrom 18 = .ok (.aload_n 1, 1) := by decide +kernel
theorem dX9_copyFrom_19 : decode cX9_copyFrom 19 = .ok (.getfield 15, 3) := by decide +kernel
theorem dX9_copyFrom_22 : decode cX9_copyFrom 22 = .ok (.iconst 0, 1) := by decide +kernel
theorem dX9_copyFrom_23 : decode cX9_copyFrom 23 = .ok (.aload_n 0, 1) := by decide +kernel
theorem dX9_copyFrom_24 : decode cX9_copyFrom 24 = .ok (.getfield 15, 3) := by decide +kernel
theorem dX9_copyFrom_27 : decode cX9_copyFrom 27 = .ok (.iconst 0, 1) := by decide +kernel
theorem dX9_copyFrom_28 : decode cX9_copyFrom 28 = .ok (.aload_n 0, 1) := by decide +kernel
theorem dX9_copyFrom_29 : decode cX9_copyFrom 29 = .ok (.getfield 15, 3) := by decide +kernel
theorem dX9_copyFrom_32 : decode cX9_copyFrom 32 = .ok (.arraylength, 1) := by decide +kernel
theorem dX9_copyFrom_33 : decode cX9_copyFrom 33 = .ok (.invokestatic 34, 3) := by decide +kernel
theorem dX9_copyFrom_36 : decode cX9_copyFrom 36 = .ok (.aload_n 1, 1) := by decide +kernel
theorem dX9_copyFrom_37 : decode cX9_copyFrom 37 = .ok (.getfield 18, 3) := by decide +kernel
theorem dX9_copyFrom_40 : decode cX9_copyFrom 40 = .ok (.iconst 0, 1) := by decide +kernel
theorem dX9_copyFrom_41 : decode cX9_copyFrom 41 = .ok (.aload_n 0, 1) := by decide +kernel
theorem dX9_copyFrom_42 : decode cX9_copyFrom 42 = .ok (.getfield 18, 3) := by decide +kernel
theorem dX9_copyFrom_45 : decode cX9_copyFrom 45 = .ok (.iconst 0, 1) := by decide +kernel
theorem dX9_copyFrom_46 : decode cX9_copyFrom 46 = .ok (.aload_n 0, 1) := by decide +kernel
theorem dX9_copyFrom_47 : decode cX9_copyFrom 47 = .ok (.getfield 18, 3) := by decide +kernel
theorem dX9_copyFrom_50 : decode cX9_copyFrom 50 = .ok (.arraylength, 1) := by decide +kernel
theorem dX9_copyFrom_51 : decode cX9_copyFrom 51 = .ok (.invokestatic 34, 3) := by decide +kernel
theorem dX9_copyFrom_54 : decode cX9_copyFrom 54 = .ok (.aload_n 0, 1) := by decide +kernel
theorem dX9_copyFrom_55 : decode cX9_copyFrom 55 = .ok (.getfield 21, 3) := by decide +kernel
theorem dX9_copyFrom_58 : decode cX9_copyFrom 58 = .ok (.iconst 0, 1) := by decide +kernel
theorem dX9_copyFrom_59 : decode cX9_copyFrom 59 = .ok (.aload_n 1, 1) := by decide +kernel
theorem dX9_copyFrom_60 : decode cX9_copyFrom 60 = .ok (.getfield 21, 3) := by decide +kernel
theorem dX9_copyFrom_63 : decode cX9_copyFrom 63 = .ok (.iconst 0, 1) := by decide +kernel
theorem dX9_copyFrom_64 : decode cX9_copyFrom 64 = .ok (.iaload, 1) := by decide +kernel
theorem dX9_copyFrom_65 : decode cX9_copyFrom 65 = .ok (.iastore, 1) := by decide +kernel
theorem dX9_copyFrom_66 : decode cX9_copyFrom 66 = .ok (.aload_n 0, 1) := by decide +kernel
theorem dX9_copyFrom_67 : decode cX9_copyFrom 67 = .ok (.getfield 21, 3) := by decide +kernel
theorem dX9_copyFrom_70 : decode cX9_copyFrom 70 = .ok (.iconst 1, 1) := by decide +kernel
theorem dX9_copyFrom_71 : decode cX9_copyFrom 71 = .ok (.aload_n 1, 1) := by decide +kernel
theorem dX9_copyFrom_72 : decode cX9_copyFrom 72 = .ok (.getfield 21, 3) := by decide +kernel
theorem dX9_copyFrom_75 : decode cX9_copyFrom 75 = .ok (.iconst 1, 1) := by decide +kernel
theorem dX9_copyFrom_76 : decode cX9_copyFrom 76 = .ok (.iaload, 1) := by decide +kernel
theorem dX9_copyFrom_77 : decode cX9_copyFrom 77 = .ok (.iastore, 1) := by decide +kernel
theorem dX9_copyFrom_78 : decode cX9_copyFrom 78 = .ok (.aload_n 0, 1) := by decide +kernel
theorem dX9_copyFrom_79 : decode cX9_copyFrom 79 = .ok (.aload_n 1, 1) := by decide +kernel
theorem dX9_copyFrom_80 : decode cX9_copyFrom 80 = .ok (.getfield 40, 3) := by decide +kernel
theorem dX9_copyFrom_83 : decode cX9_copyFrom 83 = .ok (.putfield 40, 3) := by decide +kernel
theorem dX9_copyFrom_86 : decode cX9_copyFrom 86 = .ok (.aload_n 0, 1) := by decide +kernel
theorem dX9_copyFrom_87 : decode cX9_copyFrom 87 = .ok (.aload_n 1, 1) := by decide +kernel
theorem dX9_copyFrom_88 : decode cX9_copyFrom 88 = .ok (.getfield 24, 3) := by decide +kernel
theorem dX9_copyFrom_91 : decode cX9_copyFrom 91 = .ok (.putfield 24, 3) := by decide +kernel
theorem dX9_copyFrom_94 : decode cX9_copyFrom 94 = .ok (.aload_n 0, 1) := by decide +kernel
theorem dX9_copyFrom_95 : decode cX9_copyFrom 95 = .ok (.aload_n 1, 1) := by decide +kernel
theorem dX9_copyFrom_96 : decode cX9_copyFrom 96 = .ok (.getfield 28, 3) := by decide +kernel
theorem dX9_copyFrom_99 : decode cX9_copyFrom 99 = .ok (.putfield 28, 3) := by decide +kernel
theorem dX9_copyFrom_102 : decode cX9_copyFrom 102 = .ok (.aload_n 0, 1) := by decide +kernel
theorem dX9_copyFrom_103 : decode cX9_copyFrom 103 = .ok (.aload_n 1, 1) := by decide +kernel
theorem dX9_copyFrom_104 : decode cX9_copyFrom 104 = .ok (.getfield 43, 3) := by decide +kernel
theorem dX9_copyFrom_107 : decode cX9_copyFrom 107 = .ok (.putfield 43, 3) := by decide +kernel
theorem dX9_copyFrom_110 : decode cX9_copyFrom 110 = .ok (.aload_n 0, 1) := by decide +kernel
theorem dX9_copyFrom_111 : decode cX9_copyFrom 111 = .ok (.aload_n 1, 1) := by decide +kernel
theorem dX9_copyFrom_112 : decode cX9_copyFrom 112 = .ok (.getfield 46, 3) := by decide +kernel
theorem dX9_copyFrom_115 : decode cX9_copyFrom 115 = .ok (.putfield 46, 3) := by decide +kernel
theorem dX9_copyFrom_118 : decode cX9_copyFrom 118 = .ok (.aload_n 0, 1) := by decide +kernel
theorem dX9_copyFrom_119 : decode cX9_copyFrom 119 = .ok (.aload_n 1, 1) := by decide +kernel
theorem dX9_copyFrom_120 : decode cX9_copyFrom 120 = .ok (.getfield 49, 3) := by decide +kernel
theorem dX9_copyFrom_123 : decode cX9_copyFrom 123 = .ok (.putfield 49, 3) := by decide +kernel
theorem dX9_copyFrom_126 : decode cX9_copyFrom 126 = .ok (.aload_n 0, 1) := by decide +kernel
theorem dX9_copyFrom_127 : decode cX9_copyFrom 127 = .ok (.aload_n 1, 1) := by decide +kernel
theorem dX9_copyFrom_128 : decode cX9_copyFrom 128 = .ok (.getfield 31, 3) := by decide +kernel
theorem dX9_copyFrom_131 : decode cX9_copyFrom 131 = .ok (.putfield 31, 3) := by decide +kernel
theorem dX9_copyFrom_134 : decode cX9_copyFrom 134 = .ok (.return_, 1) := by decide +kernel
set_option maxHeartbeats 4000000 in
set_option maxRecDepth 100000 in
theorem k_X9_copyFrom (l : Launch) (D : va_G) (cy : Nat → ClassId) (ld : Nat → Nat) (t : tk_T) (rg0 : Nat) (rg1 : Nat) (a0 : Nat) (a1 : Nat) (g0 : Int32) (ht_a0 : t a0 = (10, 0, rg0)) (ht_a1 : t a1 = (10, 0, rg1)) (hi_0 : rg0 ≠ rg1) (hp_0 : (-1) ≤ g0.toInt) (hp_1 : g0.toInt ≤ 7) : Met l yX9_copyFrom (wl yX9_copyFrom cX9_copyFrom 2 none) ({ frames := 4, cells := 0, slots := 0, locals := 210 }) (tp D cy ld t [] [.ref a0, .ref a1] (fun H => tk_f D H a1 9 5 (.int g0))) (tv D cy ld t [] (fun H => tk_f D H a0 9 5 (.int g0)) (tk_w t [(20, rg0, rg0), (10, rg0, rg0)])) 0 0 (tk_w t [(20, rg0, rg0), (10, rg0, rg0)]) := by
  refine tk_met (y := yX9_copyFrom) (cc := cX9_copyFrom) (maxL := 2) (ret := none) (av := [.ref a0, .ref a1]) _ _ (by decide) (Nat.le_of_ble_eq_true rfl) ?_
  intro p e s m args below meth c hx hb hr hml hts htl hown hlocks hK H locs hH hG hS hB hZ ls hl
  have hown : s.vm.findClass RX9 = some m.cls := hown
  have hl : lv_has ls 2 [(0, .ref a0), (1, .ref a1)] := hl
  have hg_0 := hB
  obtain ⟨b1, b2, b3, b4, v5, v6, v7, v8, v9, v10, v11, hat, ht_b1, ht_b2, ht_b3, ht_b4, ha_v5, hb_v5, ha_v6, hb_v6, ha_v7, hb_v7, ha_v8, hb_v8, ha_v9, hb_v9, ha_v10, hb_v10, ha_v11, hb_v11, hxx9⟩ := tk_op9 hG ht_a0
  have hG := hG.hole (a := a0)
  refine lv_aload_n hx hb dX9_copyFrom_0 rfl (lv_at hl 1 rfl) ?_
  refine tk_get (ci := 9) (C := RX9) (T := TX9) (N := 11) (sp := (1, 20, 8, 0)) hx hb htl inX9 hown hK hG ht_a1 (by decide) (tk_out (tk_ne ht_a1 ht_a0 (Or.inr (Or.inr (by omega))))) rfl 0 (by decide) (htl _ mw_82) (fun _ h9 => h9) rfl dX9_copyFrom_1 (fun v9 hf12 hV9 => ?_)
  obtain ⟨b13, rfl, ht_b13⟩ := hV9
  have ht_b13 : t b13 = (20, 8, rg1) := ht_b13
  refine lv_iconst (v := 0) hx hb dX9_copyFrom_4 (by decide) ?_
  refine lv_aload_n hx hb dX9_copyFrom_5 rfl (lv_at hl 0 rfl) ?_
  refine va_get (ci := 9) (v := .ref b1) (C := RX9) (T := TX9) (N := 11) hx hb htl inX9 hown hK.1 (tk_one hat) 0 rfl rfl 0 (by decide) (htl _ mw_82) (fun _ h9 => h9) rfl dX9_copyFrom_6 ?_
  refine lv_iconst (v := 0) hx hb dX9_copyFrom_9 (by decide) ?_
  refine lv_aload_n hx hb dX9_copyFrom_10 rfl (lv_at hl 0 rfl) ?_
  refine va_get (ci := 9) (v := .ref b1) (C := RX9) (T := TX9) (N := 11) hx hb htl inX9 hown hK.1 (tk_one hat) 0 rfl rfl 0 (by decide) (htl _ mw_82) (fun _ h9 => h9) rfl dX9_copyFrom_11 ?_
  refine tk_alen hx hb hK hG 0 rfl ht_b1 (by decide) (fun _ h => by obtain ⟨f, h, _⟩ := h; exact ⟨_, h⟩) (tk_out (tk_ne ht_b1 ht_a0 (Or.inl (by decide)))) (by decide) dX9_copyFrom_14 (fun z hz => ?_)
  obtain rfl : z = 8 := (fi_eq hz (by decide)).mpr rfl
  refine tk_copy (SP := 0) (DP := 0) (NC := 8) hx hb (by rw [hml]; exact hl.1.symm) hown (htl _ mw_822) (htl _ mw_655) (htl _ mw_656) (htl _ mw_657) hK hG hS ht_b13 ht_b1 (by decide) (by decide) (fun _ h => h) (fun _ => Iff.rfl) (tk_out (tk_ne ht_b13 ht_a0 (Or.inl (by decide)))) (tk_out (tk_ne ht_b1 ht_a0 (Or.inl (by decide)))) (by decide) (by decide) (by decide) (by decide) (by decide) (by decide) (by decide) (by decide) (fun _ _ _ _ _ => trivial) (tk_w.of ht_b1 (by decide) (List.mem_of_getElem? (i := 0) rfl) (Nat.le_refl _) (Nat.le_refl _)) (Nat.le_of_ble_eq_true rfl) (Nat.le_of_ble_eq_true rfl) dX9_copyFrom_15 (fun H locs hG hS hq9 => ?_)
  have hg_0 := hg_0.kept (hq9 _ (tk_ne ht_a1 ht_b1 (Or.inl (by decide))))
  refine lv_aload_n hx hb dX9_copyFrom_18 rfl (lv_at hl 1 rfl) ?_
  refine tk_get (ci := 9) (C := RX9) (T := TX9) (N := 11) (sp := (1, 20, 8, 0)) hx hb htl inX9 hown hK hG ht_a1 (by decide) (tk_out (tk_ne ht_a1 ht_a0 (Or.inr (Or.inr (by omega))))) rfl 1 (by decide) (htl _ mw_83) (fun _ h9 => h9) rfl dX9_copyFrom_19 (fun v9 hf15 hV9 => ?_)
  obtain ⟨b16, rfl, ht_b16⟩ := hV9
  have ht_b16 : t b16 = (20, 8, rg1) := ht_b16
  refine lv_iconst (v := 0) hx hb dX9_copyFrom_22 (by decide) ?_
  refine lv_aload_n hx hb dX9_copyFrom_23 rfl (lv_at hl 0 rfl) ?_
  refine va_get (ci := 9) (v := .ref b2) (C := RX9) (T := TX9) (N := 11) hx hb htl inX9 hown hK.1 (tk_one hat) 0 rfl rfl 1 (by decide) (htl _ mw_83) (fun _ h9 => h9) rfl dX9_copyFrom_24 ?_
  refine lv_iconst (v := 0) hx hb dX9_copyFrom_27 (by decide) ?_
  refine lv_aload_n hx hb dX9_copyFrom_28 rfl (lv_at hl 0 rfl) ?_
  refine va_get (ci := 9) (v := .ref b2) (C := RX9) (T := TX9) (N := 11) hx hb htl inX9 hown hK.1 (tk_one hat) 0 rfl rfl 1 (by decide) (htl _ mw_83) (fun _ h9 => h9) rfl dX9_copyFrom_29 ?_
  refine tk_alen hx hb hK hG 0 rfl ht_b2 (by decide) (fun _ h => by obtain ⟨f, h, _⟩ := h; exact ⟨_, h⟩) (tk_out (tk_ne ht_b2 ht_a0 (Or.inl (by decide)))) (by decide) dX9_copyFrom_32 (fun z hz => ?_)
  obtain rfl : z = 8 := (fi_eq hz (by decide)).mpr rfl
  refine tk_copy (SP := 0) (DP := 0) (NC := 8) hx hb (by rw [hml]; exact hl.1.symm) hown (htl _ mw_822) (htl _ mw_655) (htl _ mw_656) (htl _ mw_657) hK hG hS ht_b16 ht_b2 (by decide) (by decide) (fun _ h => h) (fun _ => Iff.rfl) (tk_out (tk_ne ht_b16 ht_a0 (Or.inl (by decide)))) (tk_out (tk_ne ht_b2 ht_a0 (Or.inl (by decide)))) (by decide) (by decide) (by decide) (by decide) (by decide) (by decide) (by decide) (by decide) (fun _ _ _ _ _ => trivial) (tk_w.of ht_b2 (by decide) (List.mem_of_getElem? (i := 0) rfl) (Nat.le_refl _) (Nat.le_refl _)) (Nat.le_of_ble_eq_true rfl) (Nat.le_of_ble_eq_true rfl) dX9_copyFrom_33 (fun H locs hG hS hq9 => ?_)
  have hg_0 := hg_0.kept (hq9 _ (tk_ne ht_a1 ht_b2 (Or.inl (by decide))))
  refine lv_aload_n hx hb dX9_copyFrom_36 rfl (lv_at hl 1 rfl) ?_
  refine tk_get (ci := 9) (C := RX9) (T := TX9) (N := 11) (sp := (1, 20, 8, 0)) hx hb htl inX9 hown hK hG ht_a1 (by decide) (tk_out (tk_ne ht_a1 ht_a0 (Or.inr (Or.inr (by omega))))) rfl 2 (by decide) (htl _ mw_84) (fun _ h9 => h9) rfl dX9_copyFrom_37 (fun v9 hf18 hV9 => ?_)
  obtain ⟨b19, rfl, ht_b19⟩ := hV9
  have ht_b19 : t b19 = (20, 8, rg1) := ht_b19
  refine lv_iconst (v := 0) hx hb dX9_copyFrom_40 (by decide) ?_
  refine lv_aload_n hx hb dX9_copyFrom_41 rfl (lv_at hl 0 rfl) ?_
  refine va_get (ci := 9) (v := .ref b3) (C := RX9) (T := TX9) (N := 11) hx hb htl inX9 hown hK.1 (tk_one hat) 0 rfl rfl 2 (by decide) (htl _ mw_84) (fun _ h9 => h9) rfl dX9_copyFrom_42 ?_
  refine lv_iconst (v := 0) hx hb dX9_copyFrom_45 (by decide) ?_
  refine lv_aload_n hx hb dX9_copyFrom_46 rfl (lv_at hl 0 rfl) ?_
  refine va_get (ci := 9) (v := .ref b3) (C := RX9) (T := TX9) (N := 11) hx hb htl inX9 hown hK.1 (tk_one hat) 0 rfl rfl 2 (by decide) (htl _ mw_84) (fun _ h9 => h9) rfl dX9_copyFrom_47 ?_
  refine tk_alen hx hb hK hG 0 rfl ht_b3 (by decide) (fun _ h => by obtain ⟨f, h, _⟩ := h; exact ⟨_, h⟩) (tk_out (tk_ne ht_b3 ht_a0 (Or.inl (by decide)))) (by decide) dX9_copyFrom_50 (fun z hz => ?_)
  obtain rfl : z = 8 := (fi_eq hz (by decide)).mpr rfl
  refine tk_copy (SP := 0) (DP := 0) (NC := 8) hx hb (by rw [hml]; exact hl.1.symm) hown (htl _ mw_822) (htl _ mw_655) (htl _ mw_656) (htl _ mw_657) hK hG hS ht_b19 ht_b3 (by decide) (by decide) (fun _ h => h) (fun _ => Iff.rfl) (tk_out (tk_ne ht_b19 ht_a0 (Or.inl (by decide)))) (tk_out (tk_ne ht_b3 ht_a0 (Or.inl (by decide)))) (by decide) (by decide) (by decide) (by decide) (by decide) (by decide) (by decide) (by decide) (fun _ _ _ _ _ => trivial) (tk_w.of ht_b3 (by decide) (List.mem_of_getElem? (i := 0) rfl) (Nat.le_refl _) (Nat.le_refl _)) (Nat.le_of_ble_eq_true rfl) (Nat.le_of_ble_eq_true rfl) dX9_copyFrom_51 (fun H locs hG hS hq9 => ?_)
  have hg_0 := hg_0.kept (hq9 _ (tk_ne ht_a1 ht_b3 (Or.inl (by decide))))
  refine lv_aload_n hx hb dX9_copyFrom_54 rfl (lv_at hl 0 rfl) ?_
  refine va_get (ci := 9) (v := .ref b4) (C := RX9) (T := TX9) (N := 11) hx hb htl inX9 hown hK.1 (tk_one hat) 0 rfl rfl 3 (by decide) (htl _ mw_85) (fun _ h9 => h9) rfl dX9_copyFrom_55 ?_
  refine lv_iconst (v := 0) hx hb dX9_copyFrom_58 (by decide) ?_
  refine lv_aload_n hx hb dX9_copyFrom_59 rfl (lv_at hl 1 rfl) ?_
  refine tk_get (ci := 9) (C := RX9) (T := TX9) (N := 11) (sp := (1, 20, 2, 0)) hx hb htl inX9 hown hK hG ht_a1 (by decide) (tk_out (tk_ne ht_a1 ht_a0 (Or.inr (Or.inr (by omega))))) rfl 3 (by decide) (htl _ mw_85) (fun _ h9 => h9) rfl dX9_copyFrom_60 (fun v9 hf21 hV9 => ?_)
  obtain ⟨b22, rfl, ht_b22⟩ := hV9
  have ht_b22 : t b22 = (20, 2, rg1) := ht_b22
  refine lv_iconst (v := 0) hx hb dX9_copyFrom_63 (by decide) ?_
  refine tk_iald hx hb hK hG ht_b22 (by decide) (fun _ h => h) (tk_out (tk_ne ht_b22 ht_a0 (Or.inl (by decide)))) (I := 0) (by decide) (by decide) (by decide) dX9_copyFrom_64 (fun v23 _ _ => ?_)
  have hr_v23 := tk_rng v23
  refine tk_iast hx hb hK hG hS ht_b4 (by decide) (fun _ => Iff.rfl) (tk_out (tk_ne ht_b4 ht_a0 (Or.inl (by decide)))) (I := 0) (by decide) (by decide) (by decide) trivial (tk_w.of ht_b4 (by decide) (List.mem_of_getElem? (i := 0) rfl) (Nat.le_refl _) (Nat.le_refl _)) dX9_copyFrom_65 (fun H locs hG hS hq9 => ?_)
  have hg_0 := hg_0.kept (hq9 _ (tk_ne ht_a1 ht_b4 (Or.inl (by decide))))
  refine lv_aload_n hx hb dX9_copyFrom_66 rfl (lv_at hl 0 rfl) ?_
  refine va_get (ci := 9) (v := .ref b4) (C := RX9) (T := TX9) (N := 11) hx hb htl inX9 hown hK.1 (tk_one hat) 0 rfl rfl 3 (by decide) (htl _ mw_85) (fun _ h9 => h9) rfl dX9_copyFrom_67 ?_
  refine lv_iconst (v := 1) hx hb dX9_copyFrom_70 (by decide) ?_
  refine lv_aload_n hx hb dX9_copyFrom_71 rfl (lv_at hl 1 rfl) ?_
  refine tk_get (ci := 9) (C := RX9) (T := TX9) (N := 11) (sp := (1, 20, 2, 0)) hx hb htl inX9 hown hK hG ht_a1 (by decide) (tk_out (tk_ne ht_a1 ht_a0 (Or.inr (Or.inr (by omega))))) rfl 3 (by decide) (htl _ mw_85) (fun _ h9 => h9) rfl dX9_copyFrom_72 (fun v9 hf25 hV9 => ?_)
  obtain ⟨b26, rfl, ht_b26⟩ := hV9
  have ht_b26 : t b26 = (20, 2, rg1) := ht_b26
  refine lv_iconst (v := 1) hx hb dX9_copyFrom_75 (by decide) ?_
  refine tk_iald hx hb hK hG ht_b26 (by decide) (fun _ h => h) (tk_out (tk_ne ht_b26 ht_a0 (Or.inl (by decide)))) (I := 1) (by decide) (by decide) (by decide) dX9_copyFrom_76 (fun v27 _ _ => ?_)
  have hr_v27 := tk_rng v27
  refine tk_iast hx hb hK hG hS ht_b4 (by decide) (fun _ => Iff.rfl) (tk_out (tk_ne ht_b4 ht_a0 (Or.inl (by decide)))) (I := 1) (by decide) (by decide) (by decide) trivial (tk_w.of ht_b4 (by decide) (List.mem_of_getElem? (i := 0) rfl) (Nat.le_refl _) (Nat.le_refl _)) dX9_copyFrom_77 (fun H locs hG hS hq9 => ?_)
  have hg_0 := hg_0.kept (hq9 _ (tk_ne ht_a1 ht_b4 (Or.inl (by decide))))
  refine lv_aload_n hx hb dX9_copyFrom_78 rfl (lv_at hl 0 rfl) ?_
  refine lv_aload_n hx hb dX9_copyFrom_79 rfl (lv_at hl 1 rfl) ?_
  refine tk_get (ci := 9) (C := RX9) (T := TX9) (N := 11) (sp := (0, (-2147483648), 2147483647, 0)) hx hb htl inX9 hown hK hG ht_a1 (by decide) (tk_out (tk_ne ht_a1 ht_a0 (Or.inr (Or.inr (by omega))))) rfl 4 (by decide) (htl _ mw_823) (fun _ h9 => h9) rfl dX9_copyFrom_80 (fun v9 hf29 hV9 => ?_)
  obtain ⟨v30, rfl, ha_v30, hb_v30⟩ := hV9
  refine tk_put0 (ci := 9) (v := .int v30) (ty := .int) (C := RX9) (T := TX9) (N := 11) hx hb htl inX9 tyX9 tyX9_ok nmX9 hown hK hat rfl 4 (by decide) (htl _ mw_823) (fun _ h9 => h9) rfl (tyX9_ok 4 (by decide)) rfl rfl (Nat.le_of_ble_eq_true rfl) dX9_copyFrom_83 (fun H j9 hat z9 hq9 => ?_)
  have hS := hS.put (k := j9) z9 hq9 (tk_w.of ht_a0 (by decide) (List.mem_of_getElem? (i := 1) rfl) (Nat.le_refl _) (Nat.le_refl _))
  have hG := hG.open (List.mem_singleton.mpr rfl) hq9
  have hat : va_at D vwCl (a0, .inr (9, [.ref b1, .ref b2, .ref b3, .ref b4, .int v30, .int v6, .int v7, .int v8, .int v9, .int v10, .int v11])) H := hat
  generalize locs ++ [_] = locs at hS ⊢
  have hg_0 := hg_0.kept (hq9 _ (tk_ne ht_a1 ht_a0 (Or.inr (Or.inr (by omega)))))
  refine lv_aload_n hx hb dX9_copyFrom_86 rfl (lv_at hl 0 rfl) ?_
  refine lv_aload_n hx hb dX9_copyFrom_87 rfl (lv_at hl 1 rfl) ?_
  refine tk_getk (ci := 9) (C := RX9) (T := TX9) (N := 11) (sp := (0, (-1), 7, 0)) hx hb htl inX9 hown hK hG ht_a1 (by decide) (tk_out (tk_ne ht_a1 ht_a0 (Or.inr (Or.inr (by omega))))) rfl 5 (by decide) (htl _ mw_86) (fun _ h9 => h9) rfl hg_0 dX9_copyFrom_88 ?_
  refine tk_put0 (ci := 9) (v := .int g0) (ty := .int) (C := RX9) (T := TX9) (N := 11) hx hb htl inX9 tyX9 tyX9_ok nmX9 hown hK hat rfl 5 (by decide) (htl _ mw_86) (fun _ h9 => h9) rfl (tyX9_ok 5 (by decide)) rfl rfl (Nat.le_of_ble_eq_true rfl) dX9_copyFrom_91 (fun H j9 hat z9 hq9 => ?_)
  have hS := hS.put (k := j9) z9 hq9 (tk_w.of ht_a0 (by decide) (List.mem_of_getElem? (i := 1) rfl) (Nat.le_refl _) (Nat.le_refl _))
  have hG := hG.open (List.mem_singleton.mpr rfl) hq9
  have hat : va_at D vwCl (a0, .inr (9, [.ref b1, .ref b2, .ref b3, .ref b4, .int v30, .int g0, .int v7, .int v8, .int v9, .int v10, .int v11])) H := hat
  generalize locs ++ [_] = locs at hS ⊢
  have hg_0 := hg_0.kept (hq9 _ (tk_ne ht_a1 ht_a0 (Or.inr (Or.inr (by omega)))))
  refine lv_aload_n hx hb dX9_copyFrom_94 rfl (lv_at hl 0 rfl) ?_
  refine lv_aload_n hx hb dX9_copyFrom_95 rfl (lv_at hl 1 rfl) ?_
  refine tk_get (ci := 9) (C := RX9) (T := TX9) (N := 11) (sp := (0, (-1), 7, 0)) hx hb htl inX9 hown hK hG ht_a1 (by decide) (tk_out (tk_ne ht_a1 ht_a0 (Or.inr (Or.inr (by omega))))) rfl 6 (by decide) (htl _ mw_87) (fun _ h9 => h9) rfl dX9_copyFrom_96 (fun v9 hf33 hV9 => ?_)
  obtain ⟨v34, rfl, ha_v34, hb_v34⟩ := hV9
  have hs_v34 := tk_snd hG ht_a1 (tk_out (tk_ne ht_a1 ht_a0 (Or.inr (Or.inr (by omega))))) hg_0 hf33
  refine tk_put0 (ci := 9) (v := .int v34) (ty := .int) (C := RX9) (T := TX9) (N := 11) hx hb htl inX9 tyX9 tyX9_ok nmX9 hown hK hat rfl 6 (by decide) (htl _ mw_87) (fun _ h9 => h9) rfl (tyX9_ok 6 (by decide)) rfl rfl (Nat.le_of_ble_eq_true rfl) dX9_copyFrom_99 (fun H j9 hat z9 hq9 => ?_)
  have hS := hS.put (k := j9) z9 hq9 (tk_w.of ht_a0 (by decide) (List.mem_of_getElem? (i := 1) rfl) (Nat.le_refl _) (Nat.le_refl _))
  have hG := hG.open (List.mem_singleton.mpr rfl) hq9
  have hat : va_at D vwCl (a0, .inr (9, [.ref b1, .ref b2, .ref b3, .ref b4, .int v30, .int g0, .int v34, .int v8, .int v9, .int v10, .int v11])) H := hat
  generalize locs ++ [_] = locs at hS ⊢
  have hg_0 := hg_0.kept (hq9 _ (tk_ne ht_a1 ht_a0 (Or.inr (Or.inr (by omega)))))
  refine lv_aload_n hx hb dX9_copyFrom_102 rfl (lv_at hl 0 rfl) ?_
  refine lv_aload_n hx hb dX9_copyFrom_103 rfl (lv_at hl 1 rfl) ?_
  refine tk_get (ci := 9) (C := RX9) (T := TX9) (N := 11) (sp := (0, (-2147483648), 2147483647, 0)) hx hb htl inX9 hown hK hG ht_a1 (by decide) (tk_out (tk_ne ht_a1 ht_a0 (Or.inr (Or.inr (by omega))))) rfl 7 (by decide) (htl _ mw_824) (fun _ h9 => h9) rfl dX9_copyFrom_104 (fun v9 hf36 hV9 => ?_)
  obtain ⟨v37, rfl, ha_v37, hb_v37⟩ := hV9
  refine tk_put0 (ci := 9) (v := .int v37) (ty := .int) (C := RX9) (T := TX9) (N := 11) hx hb htl inX9 tyX9 tyX9_ok nmX9 hown hK hat rfl 7 (by decide) (htl _ mw_824) (fun _ h9 => h9) rfl (tyX9_ok 7 (by decide)) rfl rfl (Nat.le_of_ble_eq_true rfl) dX9_copyFrom_107 (fun H j9 hat z9 hq9 => ?_)
  have hS := hS.put (k := j9) z9 hq9 (tk_w.of ht_a0 (by decide) (List.mem_of_getElem? (i := 1) rfl) (Nat.le_refl _) (Nat.le_refl _))
  have hG := hG.open (List.mem_singleton.mpr rfl) hq9
  have hat : va_at D vwCl (a0, .inr (9, [.ref b1, .ref b2, .ref b3, .ref b4, .int v30, .int g0, .int v34, .int v37, .int v9, .int v10, .int v11])) H := hat
  generalize locs ++ [_] = locs at hS ⊢
  have hg_0 := hg_0.kept (hq9 _ (tk_ne ht_a1 ht_a0 (Or.inr (Or.inr (by omega)))))
  refine lv_aload_n hx hb dX9_copyFrom_110 rfl (lv_at hl 0 rfl) ?_
  refine lv_aload_n hx hb dX9_copyFrom_111 rfl (lv_at hl 1 rfl) ?_
  refine tk_get (ci := 9) (C := RX9) (T := TX9) (N := 11) (sp := (0, (-2147483648), 2147483647, 0)) hx hb htl inX9 hown hK hG ht_a1 (by decide) (tk_out (tk_ne ht_a1 ht_a0 (Or.inr (Or.inr (by omega))))) rfl 8 (by decide) (htl _ mw_825) (fun _ h9 => h9) rfl dX9_copyFrom_112 (fun v9 hf39 hV9 => ?_)
  obtain ⟨v40, rfl, ha_v40, hb_v40⟩ := hV9
  refine tk_put0 (ci := 9) (v := .int v40) (ty := .int) (C := RX9) (T := TX9) (N := 11) hx hb htl inX9 tyX9 tyX9_ok nmX9 hown hK hat rfl 8 (by decide) (htl _ mw_825) (fun _ h9 => h9) rfl (tyX9_ok 8 (by decide)) rfl rfl (Nat.le_of_ble_eq_true rfl) dX9_copyFrom_115 (fun H j9 hat z9 hq9 => ?_)
  have hS := hS.put (k := j9) z9 hq9 (tk_w.of ht_a0 (by decide) (List.mem_of_getElem? (i := 1) rfl) (Nat.le_refl _) (Nat.le_refl _))
  have hG := hG.open (List.mem_singleton.mpr rfl) hq9
  have hat : va_at D vwCl (a0, .inr (9, [.ref b1, .ref b2, .ref b3, .ref b4, .int v30, .int g0, .int v34, .int v37, .int v40, .int v10, .int v11])) H := hat
  generalize locs ++ [_] = locs at hS ⊢
  have hg_0 := hg_0.kept (hq9 _ (tk_ne ht_a1 ht_a0 (Or.inr (Or.inr (by omega)))))
  refine lv_aload_n hx hb dX9_copyFrom_118 rfl (lv_at hl 0 rfl) ?_
  refine lv_aload_n hx hb dX9_copyFrom_119 rfl (lv_at hl 1 rfl) ?_
  refine tk_get (ci := 9) (C := RX9) (T := TX9) (N := 11) (sp := (0, 0, 1, 0)) hx hb htl inX9 hown hK hG ht_a1 (by decide) (tk_out (tk_ne ht_a1 ht_a0 (Or.inr (Or.inr (by omega))))) rfl 9 (by decide) (htl _ mw_826) (fun _ h9 => h9) rfl dX9_copyFrom_120 (fun v9 hf42 hV9 => ?_)
  obtain ⟨v43, rfl, ha_v43, hb_v43⟩ := hV9
  refine tk_put0 (ci := 9) (v := .int v43) (ty := .boolean) (C := RX9) (T := TX9) (N := 11) hx hb htl inX9 tyX9 tyX9_ok nmX9 hown hK hat rfl 9 (by decide) (htl _ mw_826) (fun _ h9 => h9) rfl (tyX9_ok 9 (by decide)) (tk_nz (by omega) (by omega)) rfl (Nat.le_of_ble_eq_true rfl) dX9_copyFrom_123 (fun H j9 hat z9 hq9 => ?_)
  have hS := hS.put (k := j9) z9 hq9 (tk_w.of ht_a0 (by decide) (List.mem_of_getElem? (i := 1) rfl) (Nat.le_refl _) (Nat.le_refl _))
  have hG := hG.open (List.mem_singleton.mpr rfl) hq9
  have hat : va_at D vwCl (a0, .inr (9, [.ref b1, .ref b2, .ref b3, .ref b4, .int v30, .int g0, .int v34, .int v37, .int v40, .int v43, .int v11])) H := hat
  generalize locs ++ [_] = locs at hS ⊢
  have hg_0 := hg_0.kept (hq9 _ (tk_ne ht_a1 ht_a0 (Or.inr (Or.inr (by omega)))))
  refine lv_aload_n hx hb dX9_copyFrom_126 rfl (lv_at hl 0 rfl) ?_
  refine lv_aload_n hx hb dX9_copyFrom_127 rfl (lv_at hl 1 rfl) ?_
  refine tk_get (ci := 9) (C := RX9) (T := TX9) (N := 11) (sp := (0, (-2147483648), 2147483647, 0)) hx hb htl inX9 hown hK hG ht_a1 (by decide) (tk_out (tk_ne ht_a1 ht_a0 (Or.inr (Or.inr (by omega))))) rfl 10 (by decide) (htl _ mw_88) (fun _ h9 => h9) rfl dX9_copyFrom_128 (fun v9 hf45 hV9 => ?_)
  obtain ⟨v46, rfl, ha_v46, hb_v46⟩ := hV9
  refine tk_put0 (ci := 9) (v := .int v46) (ty := .int) (C := RX9) (T := TX9) (N := 11) hx hb htl inX9 tyX9 tyX9_ok nmX9 hown hK hat rfl 10 (by decide) (htl _ mw_88) (fun _ h9 => h9) rfl (tyX9_ok 10 (by decide)) rfl rfl (Nat.le_of_ble_eq_true rfl) dX9_copyFrom_131 (fun H j9 hat z9 hq9 => ?_)
  have hS := hS.put (k := j9) z9 hq9 (tk_w.of ht_a0 (by decide) (List.mem_of_getElem? (i := 1) rfl) (Nat.le_refl _) (Nat.le_refl _))
  have hG := hG.open (List.mem_singleton.mpr rfl) hq9
  have hat : va_at D vwCl (a0, .inr (9, [.ref b1, .ref b2, .ref b3, .ref b4, .int v30, .int g0, .int v34, .int v37, .int v40, .int v43, .int v46])) H := hat
  generalize locs ++ [_] = locs at hS ⊢
  have hg_0 := hg_0.kept (hq9 _ (tk_ne ht_a1 ht_a0 (Or.inr (Or.inr (by omega)))))
  have hG := tk_cl9 hG ht_a0 hat ht_b1 ht_b2 ht_b3 ht_b4 (tk_rng _).1 (tk_rng _).2 (by omega) (by omega) (by omega) (by omega) (tk_rng _).1 (tk_rng _).2 (tk_rng _).1 (tk_rng _).2 (by omega) (by omega) (tk_rng _).1 (tk_rng _).2 (by omega)
  have hf48 : tk_f D H a0 9 5 (.int g0) := tk_f.of hat (C := RX9) (T := TX9) (N := 11) rfl (by decide) rfl
  exact tk_vret hx hb hr hlocks (show tk_f D H a0 9 5 (.int g0) from hf48) hG hS dX9_copyFrom_134
theorem dX1_remember_0 : decode cX1_remember 0 = .ok (.aload_n 0, 1) := by decide +kernel
theorem dX1_remember_1 : decode cX1_remember 1 = .ok (.getfield 99, 3) := by decide +kernel
theorem dX1_remember_4 : decode cX1_remember 4 = .ok (.bipush 16, 2) := by decide +kernel
theorem dX1_remember_32 : decode cX1_remember 32 = .ok (.aload_n 0, 1) := by decide +kernel
theorem dX1_remember_33 : decode cX1_remember 33 = .ok (.getfield 102, 3) := by decide +kernel
theorem dX1_remember_36 : decode cX1_remember 36 = .ok (.aload_n 0, 1) := by decide +kernel
theorem dX1_remember_37 : decode cX1_remember 37 = .ok (.getfield 99, 3) := by decide +kernel
theorem dX1_remember_40 : decode cX1_remember 40 = .ok (.iadd, 1) := by decide +kernel
theorem dX1_remember_41 : decode cX1_remember 41 = .ok (.bipush 16, 2) := by decide +kernel
theorem dX1_remember_43 : decode cX1_remember 43 = .ok (.irem, 1) := by decide +kernel
theorem dX1_remember_44 : decode cX1_remember 44 = .ok (.istore_n 2, 1) := by decide +kernel
theorem dX1_remember_45 : decode cX1_remember 45 = .ok (.aload_n 0, 1) := by decide +kernel
theorem dX1_remember_46 : decode cX1_remember 46 = .ok (.getfield 11, 3) := by decide +kernel
theorem dX1_remember_49 : decode cX1_remember 49 = .ok (.iload_n 2, 1) := by decide +kernel
theorem dX1_remember_50 : decode cX1_remember 50 = .ok (.aaload, 1) := by decide +kernel
theorem dX1_remember_51 : decode cX1_remember 51 = .ok (.aload_n 0, 1) := by decide +kernel
theorem dX1_remember_52 : decode cX1_remember 52 = .ok (.getfield 32, 3) := by decide +kernel
theorem dX1_remember_55 : decode cX1_remember 55 = .ok (.getfield 50, 3) := by decide +kernel
theorem dX1_remember_58 : decode cX1_remember 58 = .ok (.invokevirtual 105, 3) := by decide +kernel
theorem dX1_remember_61 : decode cX1_remember 61 = .ok (.aload_n 0, 1) := by decide +kernel
theorem dX1_remember_62 : decode cX1_remember 62 = .ok (.getfield 17, 3) := by decide +kernel
theorem dX1_remember_65 : decode cX1_remember 65 = .ok (.iload_n 2, 1) := by decide +kernel
theorem dX1_remember_66 : decode cX1_remember 66 = .ok (.iload_n 1, 1) := by decide +kernel
theorem dX1_remember_67 : decode cX1_remember 67 = .ok (.iastore, 1) := by decide +kernel
theorem dX1_remember_68 : decode cX1_remember 68 = .ok (.aload_n 0, 1) := by decide +kernel
theorem dX1_remember_69 : decode cX1_remember 69 = .ok (.dup, 1) := by decide +kernel
theorem dX1_remember_70 : decode cX1_remember 70 = .ok (.getfield 99, 3) := by decide +kernel
theorem dX1_remember_73 : decode cX1_remember 73 = .ok (.iconst 1, 1) := by decide +kernel
theorem dX1_remember_74 : decode cX1_remember 74 = .ok (.iadd, 1) := by decide +kernel
theorem dX1_remember_75 : decode cX1_remember 75 = .ok (.putfield 99, 3) := by decide +kernel
theorem dX1_remember_78 : decode cX1_remember 78 = .ok (.return_, 1) := by decide +kernel
theorem dX1_remember_6 : decode cX1_remember 6 = .ok (.if_icmp .ne 26, 3) := by decide +kernel
theorem dX1_remember_9 : decode cX1_remember 9 = .ok (.aload_n 0, 1) := by decide +kernel
theorem dX1_remember_10 : decode cX1_remember 10 = .ok (.aload_n 0, 1) := by decide +kernel
theorem dX1_remember_11 : decode cX1_remember 11 = .ok (.getfield 102, 3) := by decide +kernel
theorem dX1_remember_14 : decode cX1_remember 14 = .ok (.iconst 1, 1) := by decide +kernel
theorem dX1_remember_15 : decode cX1_remember 15 = .ok (.iadd, 1) := by decide +kernel
theorem dX1_remember_16 : decode cX1_remember 16 = .ok (.bipush 16, 2) := by decide +kernel
theorem dX1_remember_18 : decode cX1_remember 18 = .ok (.irem, 1) := by decide +kernel
theorem dX1_remember_19 : decode cX1_remember 19 = .ok (.putfield 102, 3) := by decide +kernel
theorem dX1_remember_22 : decode cX1_remember 22 = .ok (.aload_n 0, 1) := by decide +kernel
theorem dX1_remember_23 : decode cX1_remember 23 = .ok (.dup, 1) := by decide +kernel
theorem dX1_remember_24 : decode cX1_remember 24 = .ok (.getfield 99, 3) := by decide +kernel
theorem dX1_remember_27 : decode cX1_remember 27 = .ok (.iconst 1, 1) := by decide +kernel
theorem dX1_remember_28 : decode cX1_remember 28 = .ok (.isub, 1) := by decide +kernel
theorem dX1_remember_29 : decode cX1_remember 29 = .ok (.putfield 99, 3) := by decide +kernel
set_option maxHeartbeats 4000000 in
set_option maxRecDepth 100000 in
theorem k_X1_remember (l : Launch) (D : va_G) (cy : Nat → ClassId) (ld : Nat → Nat) (t : tk_T) (a0 : Nat) (p1 : Int32) (ht_a0 : t a0 = (2, 0, 0)) : Met l yX1_remember (wl yX1_remember cX1_remember 3 none) ({ frames := 5, cells := 0, slots := 0, locals := 280 }) (tp D cy ld t [] [.ref a0, .int p1] (fun H => True)) (tv D cy ld t [] (fun H => True) (tk_w t [(2, 0, 0), (20, 1, 1), (10, 1, 1), (20, 0, 0)])) 0 0 (tk_w t [(2, 0, 0), (20, 1, 1), (10, 1, 1), (20, 0, 0)]) := by
  refine tk_met (y := yX1_remember) (cc := cX1_remember) (maxL := 3) (ret := none) (av := [.ref a0, .int p1]) _ _ (by decide) (Nat.le_of_ble_eq_true rfl) ?_
  intro p e s m args below meth c hx hb hr hml hts htl hown hlocks hK H locs hH hG hS hB hZ ls hl
  have hown : s.vm.findClass RX1 = some m.cls := hown
  have hl : lv_has ls 3 [(0, .ref a0), (1, .int p1)] := hl
  have hr_p1 := tk_rng p1
  refine lv_aload_n hx hb dX1_remember_0 rfl (lv_at hl 0 rfl) ?_
  refine tk_get (ci := 1) (C := RX1) (T := TX1) (N := 11) (sp := (0, 0, 16, 0)) hx hb htl inX1 hown hK hG ht_a0 (by decide) tk_no rfl 0 (by decide) (htl _ mw_267) (fun _ h9 => h9) rfl dX1_remember_1 (fun v9 hf1 hV9 => ?_)
  obtain ⟨v2, rfl, ha_v2, hb_v2⟩ := hV9
  refine lv_bipush (v := 16) hx hb dX1_remember_4 (by decide) ?_
  have hj17 : ∀ (v15 : Int32) (H : Heap) (locs : List Loc), 0 ≤ v15.toInt → v15.toInt ≤ 15 → tk_G D cy ld t [] H → va_S (tk_w t [(2, 0, 0), (20, 1, 1), (10, 1, 1), (20, 0, 0)]) s.heap H locs → tk_f D H a0 1 0 (.int v15) → ∀ ls : Array Slot, lv_has ls 3 [(0, .ref a0), (1, .int p1)] → W p l e ({ frames := 5, cells := 0, slots := 0, locals := 280 }) s m args below meth c H locs 0 0 (MQ below (tv D cy ld t [] (fun H => True) (tk_w t [(2, 0, 0), (20, 1, 1), (10, 1, 1), (20, 0, 0)])) args s 0 0 (tk_w t [(2, 0, 0), (20, 1, 1), (10, 1, 1), (20, 0, 0)])) (F0 m 32 ls []) := by
    intro v15 H locs hq0_j17 hq1_j17 hG hS hf1 ls hl
    refine lv_aload_n hx hb dX1_remember_32 rfl (lv_at hl 0 rfl) ?_
    refine tk_get (ci := 1) (C := RX1) (T := TX1) (N := 11) (sp := (0, 0, 15, 0)) hx hb htl inX1 hown hK hG ht_a0 (by decide) tk_no rfl 5 (by decide) (htl _ mw_815) (fun _ h9 => h9) rfl dX1_remember_33 (fun v9 hf18 hV9 => ?_)
    obtain ⟨v19, rfl, ha_v19, hb_v19⟩ := hV9
    refine lv_aload_n hx hb dX1_remember_36 rfl (lv_at hl 0 rfl) ?_
    refine tk_getk (ci := 1) (C := RX1) (T := TX1) (N := 11) (sp := (0, 0, 16, 0)) hx hb htl inX1 hown hK hG ht_a0 (by decide) tk_no rfl 0 (by decide) (htl _ mw_267) (fun _ h9 => h9) rfl hf1 dX1_remember_37 ?_
    refine lv_iadd hx hb dX1_remember_40 ?_
    refine tk_add rfl rfl (by omega) (by omega) (fun v20 h_v20 => ?_)
    refine lv_bipush (v := 16) hx hb dX1_remember_41 (by decide) ?_
    refine lv_irem hx hb dX1_remember_43 (by decide) ?_
    refine tk_say (P := fun z => 0 ≤ z.toInt ∧ z.toInt < 16) (tk_rem rfl (by decide) (by omega) (by omega)) (fun v21 h_v21 => ?_)
    refine lv_istore_n (lv' := [(2, .int v21), (0, .ref a0), (1, .int p1)]) hx hb dX1_remember_44 rfl hl (by decide) rfl (fun ls hl => ?_)
    refine lv_aload_n hx hb dX1_remember_45 rfl (lv_at hl 1 rfl) ?_
    refine tk_get (ci := 1) (C := RX1) (T := TX1) (N := 11) (sp := (6, 25, 16, 1)) hx hb htl inX1 hown hK hG ht_a0 (by decide) tk_no rfl 3 (by decide) (htl _ mw_109) (fun _ h9 => h9) rfl dX1_remember_46 (fun v9 hf22 hV9 => ?_)
    obtain ⟨b23, rfl, ht_b23⟩ := hV9
    have ht_b23 : t b23 = (25, 16, 1) := ht_b23
    refine lv_iload_n hx hb dX1_remember_49 rfl (lv_at hl 0 rfl) ?_
    refine tk_aald hx hb hK hG 3 rfl rfl ht_b23 (by decide) (fun _ h => h) tk_no rfl (by omega) (by omega) dX1_remember_50 (fun o24 ht_o24 => ?_)
    obtain ⟨b25, rfl, ht_b25⟩ := ht_o24
    have ht_b25 : t b25 = (10, 0, 1) := ht_b25
    refine fx_top (v := .ref b25) rfl ?_
    refine lv_aload_n hx hb dX1_remember_51 rfl (lv_at hl 1 rfl) ?_
    refine tk_get (ci := 1) (C := RX1) (T := TX1) (N := 11) (sp := (8, 20, 3, 0)) hx hb htl inX1 hown hK hG ht_a0 (by decide) tk_no rfl 1 (by decide) (htl _ mw_114) (fun _ h9 => h9) rfl dX1_remember_52 (fun v9 hf26 hV9 => ?_)
    obtain ⟨rfl, ht_ld20⟩ := hV9
    have ht_ld20 : t (ld 20) = (3, 0, 0) := ht_ld20
    refine fx_top (v := .ref (ld 20)) rfl ?_
    refine tk_get (ci := 2) (C := RX2) (T := TX2) (N := 20) (sp := (9, 40, 10, 0)) hx hb htl inX2 hown hK hG ht_ld20 (by decide) tk_no rfl 19 (by decide) (htl _ mw_814) (fun _ h9 => h9) rfl dX1_remember_55 (fun v9 hf27 hV9 => ?_)
    obtain ⟨rfl, ht_ld40⟩ := hV9
    have ht_ld40 : t (ld 40) = (10, 0, 0) := ht_ld40
    refine fx_top (v := .ref (ld 40)) rfl ?_
    obtain ⟨v9, hf28, hV9⟩ := tk_peek (ci := 9) (C := RX9) (T := TX9) (N := 11) (sp := (0, (-1), 7, 0)) hG ht_ld40 (by decide) tk_no rfl 5 (by decide) rfl
    obtain ⟨v29, rfl, ha_v29, hb_v29⟩ := hV9
    refine tk_Vv (As := [.ref (ld 40)]) (rest := []) (ci := 9) ⟨hx, hb, hml, hown, hts⟩ hK hG hZ hS (k_X9_copyFrom l D cy ld t 1 0 b25 (ld 40) v29 ht_b25 ht_ld40 (by omega) (by omega) (by omega)) hf28 ⟨callB_of 1 hts (wl_in mw_821) rfl rfl rfl (htl _ mw_76) (htl _ mw_818) hd_yX9_copyFrom ⟨(Nat.le_of_ble_eq_true rfl), (Nat.le_of_ble_eq_true rfl)⟩, htl _ mw_819, htl _ mw_820⟩ ht_b25 (by decide) tk_no rfl (tk_w.pick [1, 2] rfl) rfl hl.1 rfl (Nat.le_of_ble_eq_true rfl) dX1_remember_58 ⟨(Nat.le_of_ble_eq_true rfl), (Nat.le_of_ble_eq_true rfl)⟩ (fun H locs hpo hG hS hq9 => ?_)
    have hf1 := hf1.call hq9 (tk_w.no ht_a0 (by decide))
    have hf28 := hf28.call hq9 (tk_w.no ht_ld40 (by decide))
    have hf31 := hpo
    refine lv_aload_n hx hb dX1_remember_61 rfl (lv_at hl 1 rfl) ?_
    refine tk_get (ci := 1) (C := RX1) (T := TX1) (N := 11) (sp := (6, 20, 16, 0)) hx hb htl inX1 hown hK hG ht_a0 (by decide) tk_no rfl 4 (by decide) (htl _ mw_110) (fun _ h9 => h9) rfl dX1_remember_62 (fun v9 hf32 hV9 => ?_)
    obtain ⟨b33, rfl, ht_b33⟩ := hV9
    have ht_b33 : t b33 = (20, 16, 0) := ht_b33
    refine lv_iload_n hx hb dX1_remember_65 rfl (lv_at hl 0 rfl) ?_
    refine lv_iload_n hx hb dX1_remember_66 rfl (lv_at hl 2 rfl) ?_
    refine tk_iast hx hb hK hG hS ht_b33 (by decide) (fun _ => Iff.rfl) tk_no rfl (by omega) (by omega) trivial (tk_w.of ht_b33 (by decide) (List.mem_of_getElem? (i := 3) rfl) (Nat.le_refl _) (Nat.le_refl _)) dX1_remember_67 (fun H locs hG hS hq9 => ?_)
    have hf1 := hf1.kept (hq9 _ (tk_ne ht_a0 ht_b33 (Or.inl (by decide))))
    have hf28 := hf28.kept (hq9 _ (tk_ne ht_ld40 ht_b33 (Or.inl (by decide))))
    have hf31 := hf31.kept (hq9 _ (tk_ne ht_b25 ht_b33 (Or.inl (by decide))))
    refine lv_aload_n hx hb dX1_remember_68 rfl (lv_at hl 1 rfl) ?_
    refine lv_dup hx hb dX1_remember_69 rfl ?_
    refine tk_getk (ci := 1) (C := RX1) (T := TX1) (N := 11) (sp := (0, 0, 16, 0)) hx hb htl inX1 hown hK hG ht_a0 (by decide) tk_no rfl 0 (by decide) (htl _ mw_267) (fun _ h9 => h9) rfl hf1 dX1_remember_70 ?_
    refine lv_iconst (v := 1) hx hb dX1_remember_73 (by decide) ?_
    refine lv_iadd hx hb dX1_remember_74 ?_
    refine tk_add rfl (by decide) (by omega) (by omega) (fun v35 h_v35 => ?_)
    refine tk_put (ci := 1) (v := .int v35) (ty := .int) (C := RX1) (T := TX1) (N := 11) (sp := (0, 0, 16, 0)) hx hb htl inX1 tyX1 tyX1_ok nmX1 hown hK hG hS ht_a0 (by decide) tk_no rfl 0 (by decide) (htl _ mw_267) (fun _ h9 => h9) rfl (tyX1_ok 0 (by decide)) rfl rfl rfl (tk_Vi (by omega) (by omega)) (fun _ h => h) (tk_w.of ht_a0 (by decide) (List.mem_of_getElem? (i := 0) rfl) (Nat.le_refl _) (Nat.le_refl _)) dX1_remember_75 (fun H locs hG hS hf36 hq9 hj9 => ?_)
    have hf28 := hf28.kept (hq9 _ (tk_ne ht_ld40 ht_a0 (Or.inl (by decide))))
    have hf31 := hf31.kept (hq9 _ (tk_ne ht_b25 ht_a0 (Or.inl (by decide))))
    exact tk_vret hx hb hr hlocks trivial hG hS dX1_remember_78
  refine lv_icmp_ne (tgt := 32) hx hb dX1_remember_6 (by decide) (fun c9 => ?_) (fun c9 => ?_)
  · have hc3 : ¬ (v2.toInt = 16) := fun h9 => c9 ((fi_eq rfl (by decide)).mpr h9)
    exact hj17 v2 _ _ (by omega) (by omega) hG hS hf1 _ (lv_sub hl [0, 1] rfl)
  · have hc3 : v2.toInt = 16 := (fi_eq rfl (by decide)).mp c9
    refine lv_aload_n hx hb dX1_remember_9 rfl (lv_at hl 0 rfl) ?_
    refine lv_aload_n hx hb dX1_remember_10 rfl (lv_at hl 0 rfl) ?_
    refine tk_get (ci := 1) (C := RX1) (T := TX1) (N := 11) (sp := (0, 0, 15, 0)) hx hb htl inX1 hown hK hG ht_a0 (by decide) tk_no rfl 5 (by decide) (htl _ mw_815) (fun _ h9 => h9) rfl dX1_remember_11 (fun v9 hf38 hV9 => ?_)
    obtain ⟨v39, rfl, ha_v39, hb_v39⟩ := hV9
    refine lv_iconst (v := 1) hx hb dX1_remember_14 (by decide) ?_
    refine lv_iadd hx hb dX1_remember_15 ?_
    refine tk_add rfl (by decide) (by omega) (by omega) (fun v40 h_v40 => ?_)
    refine lv_bipush (v := 16) hx hb dX1_remember_16 (by decide) ?_
    refine lv_irem hx hb dX1_remember_18 (by decide) ?_
    refine tk_say (P := fun z => 0 ≤ z.toInt ∧ z.toInt < 16) (tk_rem rfl (by decide) (by omega) (by omega)) (fun v41 h_v41 => ?_)
    refine tk_put (ci := 1) (v := .int v41) (ty := .int) (C := RX1) (T := TX1) (N := 11) (sp := (0, 0, 15, 0)) hx hb htl inX1 tyX1 tyX1_ok nmX1 hown hK hG hS ht_a0 (by decide) tk_no rfl 5 (by decide) (htl _ mw_815) (fun _ h9 => h9) rfl (tyX1_ok 5 (by decide)) rfl rfl rfl (tk_Vi (by omega) (by omega)) (fun _ h => h) (tk_w.of ht_a0 (by decide) (List.mem_of_getElem? (i := 0) rfl) (Nat.le_refl _) (Nat.le_refl _)) dX1_remember_19 (fun H locs hG hS hf42 hq9 hj9 => ?_)
    have hf1 := hj9 0 _ (by decide) (by decide) hf1
    refine lv_aload_n hx hb dX1_remember_22 rfl (lv_at hl 0 rfl) ?_
    refine lv_dup hx hb dX1_remember_23 rfl ?_
    refine tk_getk (ci := 1) (C := RX1) (T := TX1) (N := 11) (sp := (0, 0, 16, 0)) hx hb htl inX1 hown hK hG ht_a0 (by decide) tk_no rfl 0 (by decide) (htl _ mw_267) (fun _ h9 => h9) rfl hf1 dX1_remember_24 ?_
    refine lv_iconst (v := 1) hx hb dX1_remember_27 (by decide) ?_
    refine lv_isub hx hb dX1_remember_28 ?_
    refine tk_sub rfl (by decide) (by omega) (by omega) (fun v44 h_v44 => ?_)
    refine tk_put (ci := 1) (v := .int v44) (ty := .int) (C := RX1) (T := TX1) (N := 11) (sp := (0, 0, 16, 0)) hx hb htl inX1 tyX1 tyX1_ok nmX1 hown hK hG hS ht_a0 (by decide) tk_no rfl 0 (by decide) (htl _ mw_267) (fun _ h9 => h9) rfl (tyX1_ok 0 (by decide)) rfl rfl rfl (tk_Vi (by omega) (by omega)) (fun _ h => h) (tk_w.of ht_a0 (by decide) (List.mem_of_getElem? (i := 0) rfl) (Nat.le_refl _) (Nat.le_refl _)) dX1_remember_29 (fun H locs hG hS hf45 hq9 hj9 => ?_)
    exact hj17 v44 _ _ (by omega) (by omega) hG hS hf45 _ (lv_sub hl [0, 1] rfl)
theorem dX9_closeDuel_0 : decode cX9_closeDuel 0 = .ok (.aload_n 0, 1) := by decide +kernel
theorem dX9_closeDuel_1 : decode cX9_closeDuel 1 = .ok (.iconst (-1), 1) := by decide +kernel
theorem dX9_closeDuel_2 : decode cX9_closeDuel 2 = .ok (.putfield 24, 3) := by decide +kernel
theorem dX9_closeDuel_5 : decode cX9_closeDuel 5 = .ok (.aload_n 0, 1) := by decide +kernel
theorem dX9_closeDuel_6 : decode cX9_closeDuel 6 = .ok (.iconst (-1), 1) := by decide +kernel
theorem dX9_closeDuel_7 : decode cX9_closeDuel 7 = .ok (.putfield 28, 3) := by decide +kernel
theorem dX9_closeDuel_10 : decode cX9_closeDuel 10 = .ok (.return_, 1) := by decide +kernel
set_option maxHeartbeats 4000000 in
set_option maxRecDepth 100000 in
theorem k_X9_closeDuel (l : Launch) (D : va_G) (cy : Nat → ClassId) (ld : Nat → Nat) (t : tk_T) (rg0 : Nat) (a0 : Nat) (ht_a0 : t a0 = (10, 0, rg0)) : Met l yX9_closeDuel (wl yX9_closeDuel cX9_closeDuel 1 none) ({ frames := 3, cells := 0, slots := 0, locals := 140 }) (tp D cy ld t [] [.ref a0] (fun H => True)) (tv D cy ld t [] (fun H => tk_f D H a0 9 5 (.int (-1))) (tk_w t [(10, rg0, rg0)])) 0 0 (tk_w t [(10, rg0, rg0)]) := by
  refine tk_met (y := yX9_closeDuel) (cc := cX9_closeDuel) (maxL := 1) (ret := none) (av := [.ref a0]) _ _ (by decide) (Nat.le_of_ble_eq_true rfl) ?_
  intro p e s m args below meth c hx hb hr hml hts htl hown hlocks hK H locs hH hG hS hB hZ ls hl
  have hown : s.vm.findClass RX9 = some m.cls := hown
  have hl : lv_has ls 1 [(0, .ref a0)] := hl
  obtain ⟨b1, b2, b3, b4, v5, v6, v7, v8, v9, v10, v11, hat, ht_b1, ht_b2, ht_b3, ht_b4, ha_v5, hb_v5, ha_v6, hb_v6, ha_v7, hb_v7, ha_v8, hb_v8, ha_v9, hb_v9, ha_v10, hb_v10, ha_v11, hb_v11, hxx9⟩ := tk_op9 hG ht_a0
  have hG := hG.hole (a := a0)
  refine lv_aload_n hx hb dX9_closeDuel_0 rfl (lv_at hl 0 rfl) ?_
  refine lv_iconst (v := (-1)) hx hb dX9_closeDuel_1 (by decide) ?_
  refine tk_put0 (ci := 9) (v := .int (-1)) (ty := .int) (C := RX9) (T := TX9) (N := 11) hx hb htl inX9 tyX9 tyX9_ok nmX9 hown hK hat rfl 5 (by decide) (htl _ mw_86) (fun _ h9 => h9) rfl (tyX9_ok 5 (by decide)) rfl rfl (Nat.le_of_ble_eq_true rfl) dX9_closeDuel_2 (fun H j9 hat z9 hq9 => ?_)
  have hS := hS.put (k := j9) z9 hq9 (tk_w.of ht_a0 (by decide) (List.mem_of_getElem? (i := 0) rfl) (Nat.le_refl _) (Nat.le_refl _))
  have hG := hG.open (List.mem_singleton.mpr rfl) hq9
  have hat : va_at D vwCl (a0, .inr (9, [.ref b1, .ref b2, .ref b3, .ref b4, .int v5, .int (-1), .int v7, .int v8, .int v9, .int v10, .int v11])) H := hat
  generalize locs ++ [_] = locs at hS ⊢
  refine lv_aload_n hx hb dX9_closeDuel_5 rfl (lv_at hl 0 rfl) ?_
  refine lv_iconst (v := (-1)) hx hb dX9_closeDuel_6 (by decide) ?_
  refine tk_put0 (ci := 9) (v := .int (-1)) (ty := .int) (C := RX9) (T := TX9) (N := 11) hx hb htl inX9 tyX9 tyX9_ok nmX9 hown hK hat rfl 6 (by decide) (htl _ mw_87) (fun _ h9 => h9) rfl (tyX9_ok 6 (by decide)) rfl rfl (Nat.le_of_ble_eq_true rfl) dX9_closeDuel_7 (fun H j9 hat z9 hq9 => ?_)
  have hS := hS.put (k := j9) z9 hq9 (tk_w.of ht_a0 (by decide) (List.mem_of_getElem? (i := 0) rfl) (Nat.le_refl _) (Nat.le_refl _))
  have hG := hG.open (List.mem_singleton.mpr rfl) hq9
  have hat : va_at D vwCl (a0, .inr (9, [.ref b1, .ref b2, .ref b3, .ref b4, .int v5, .int (-1), .int (-1), .int v8, .int v9, .int v10, .int v11])) H := hat
  generalize locs ++ [_] = locs at hS ⊢
  have hk_m1 : ((-1) : Int32).toInt = (-1) := by decide
  have hk_m1 : ((-1) : Int32).toInt = (-1) := by decide
  have hG := tk_cl9 hG ht_a0 hat ht_b1 ht_b2 ht_b3 ht_b4 (tk_rng _).1 (tk_rng _).2 (by omega) (by omega) (by omega) (by omega) (tk_rng _).1 (tk_rng _).2 (tk_rng _).1 (tk_rng _).2 (by omega) (by omega) (tk_rng _).1 (tk_rng _).2 (by omega)
  have hf14 : tk_f D H a0 9 5 (.int (-1)) := tk_f.of hat (C := RX9) (T := TX9) (N := 11) rfl (by decide) rfl
  exact tk_vret hx hb hr hlocks (show tk_f D H a0 9 5 (.int (-1)) from hf14) hG hS dX9_closeDuel_10
theorem dX8_nearest_0 : decode cX8_nearest 0 = .ok (.iconst 0, 1) := by decide +kernel
theorem dX8_nearest_1 : decode cX8_nearest 1 = .ok (.iload_n 1, 1) := by decide +kernel
theorem dX8_nearest_2 : decode cX8_nearest 2 = .ok (.iload_n 0, 1) := by decide +kernel
theorem dX8_nearest_3 : decode cX8_nearest 3 = .ok (.invokestatic 132, 3) := by decide +kernel
theorem dX8_nearest_6 : decode cX8_nearest 6 = .ok (.invokestatic 92, 3) := by decide +kernel
theorem dX8_nearest_9 : decode cX8_nearest 9 = .ok (.ireturn, 1) := by decide +kernel
set_option maxHeartbeats 4000000 in
set_option maxRecDepth 100000 in
theorem k_X8_nearest (l : Launch) (D : va_G) (cy : Nat → ClassId) (ld : Nat → Nat) (t : tk_T) (X : List Nat) (p0 : Int32) (p1 : Int32) : Met l yX8_nearest (wl yX8_nearest cX8_nearest 2 (some .int)) ({ frames := 4, cells := 0, slots := 0, locals := 210 }) (tp D cy ld t X [.int p0, .int p1] (fun H => True)) (ti D cy ld t X (fun r H => 0 ≤ r.toInt) (tk_w t [])) 0 0 (tk_w t []) := by
  refine tk_met (y := yX8_nearest) (cc := cX8_nearest) (maxL := 2) (ret := (some .int)) (av := [.int p0, .int p1]) _ _ (by decide) (Nat.le_of_ble_eq_true rfl) ?_
  intro p e s m args below meth c hx hb hr hml hts htl hown hlocks hK H locs hH hG hS hB hZ ls hl
  have hown : s.vm.findClass RX8 = some m.cls := hown
  have hl : lv_has ls 2 [(0, .int p0), (1, .int p1)] := hl
  have hr_p0 := tk_rng p0
  have hr_p1 := tk_rng p1
  refine lv_iconst (v := 0) hx hb dX8_nearest_0 (by decide) ?_
  refine lv_iload_n hx hb dX8_nearest_1 rfl (lv_at hl 1 rfl) ?_
  refine lv_iload_n hx hb dX8_nearest_2 rfl (lv_at hl 0 rfl) ?_
  refine va_mmin hx hb (by rw [hml]; exact hl.1.symm) hown (htl _ mw_961) (htl _ mw_473) (htl _ mw_474) (htl _ mw_475) (Nat.le_of_ble_eq_true rfl) (Nat.le_of_ble_eq_true rfl) (Nat.le_of_ble_eq_true rfl) (Nat.le_of_ble_eq_true rfl) dX8_nearest_3 ?_
  refine tk_say (P := fun z => z.toInt ≤ p1.toInt ∧ z.toInt ≤ p0.toInt ∧ (z.toInt = p1.toInt ∨ z.toInt = p0.toInt)) (tk_min rfl rfl) (fun v1 h_v1 => ?_)
  refine va_mmax hx hb (by rw [hml]; exact hl.1.symm) hown (htl _ mw_947) (htl _ mw_948) (htl _ mw_474) (htl _ mw_949) (Nat.le_of_ble_eq_true rfl) (Nat.le_of_ble_eq_true rfl) (Nat.le_of_ble_eq_true rfl) (Nat.le_of_ble_eq_true rfl) dX8_nearest_6 ?_
  refine tk_say (P := fun z => 0 ≤ z.toInt ∧ v1.toInt ≤ z.toInt ∧ (z.toInt = 0 ∨ z.toInt = v1.toInt)) (tk_max (by decide) rfl) (fun v2 h_v2 => ?_)
  exact tk_iret (v := v2) hx hb hr rfl hlocks (show 0 ≤ v2.toInt from (by omega)) hG hS dX8_nearest_9
theorem dX8_howWakes_0 : decode cX8_howWakes 0 = .ok (.aload_n 0, 1) := by decide +kernel
theorem dX8_howWakes_1 : decode cX8_howWakes 1 = .ok (.getfield 12, 3) := by decide +kernel
theorem dX8_howWakes_4 : decode cX8_howWakes 4 = .ok (.getfield 48, 3) := by decide +kernel
theorem dX8_howWakes_7 : decode cX8_howWakes 7 = .ok (.astore_n 3, 1) := by decide +kernel
theorem dX8_howWakes_8 : decode cX8_howWakes 8 = .ok (.aload_n 3, 1) := by decide +kernel
theorem dX8_howWakes_9 : decode cX8_howWakes 9 = .ok (.iconst 0, 1) := by decide +kernel
theorem dX8_howWakes_10 : decode cX8_howWakes 10 = .ok (.aload_n 0, 1) := by decide +kernel
theorem dX8_howWakes_11 : decode cX8_howWakes 11 = .ok (.getfield 18, 3) := by decide +kernel
theorem dX8_howWakes_14 : decode cX8_howWakes 14 = .ok (.getfield 52, 3) := by decide +kernel
theorem dX8_howWakes_17 : decode cX8_howWakes 17 = .ok (.iload_n 2, 1) := by decide +kernel
theorem dX8_howWakes_18 : decode cX8_howWakes 18 = .ok (.iaload, 1) := by decide +kernel
theorem dX8_howWakes_19 : decode cX8_howWakes 19 = .ok (.iastore, 1) := by decide +kernel
theorem dX8_howWakes_20 : decode cX8_howWakes 20 = .ok (.aload_n 3, 1) := by decide +kernel
theorem dX8_howWakes_21 : decode cX8_howWakes 21 = .ok (.iconst 1, 1) := by decide +kernel
theorem dX8_howWakes_22 : decode cX8_howWakes 22 = .ok (.iconst (-1), 1) := by decide +kernel
theorem dX8_howWakes_23 : decode cX8_howWakes 23 = .ok (.iastore, 1) := by decide +kernel
theorem dX8_howWakes_24 : decode cX8_howWakes 24 = .ok (.aload_n 3, 1) := by decide +kernel
theorem dX8_howWakes_25 : decode cX8_howWakes 25 = .ok (.iconst 2, 1) := by decide +kernel
theorem dX8_howWakes_26 : decode cX8_howWakes 26 = .ok (.iconst (-1), 1) := by decide +kernel
theorem dX8_howWakes_27 : decode cX8_howWakes 27 = .ok (.iastore, 1) := by decide +kernel
theorem dX8_howWakes_28 : decode cX8_howWakes 28 = .ok (.aload_n 3, 1) := by decide +kernel
theorem dX8_howWakes_29 : decode cX8_howWakes 29 = .ok (.iconst 3, 1) := by decide +kernel
theorem dX8_howWakes_30 : decode cX8_howWakes 30 = .ok (.iconst (-1), 1) := by decide +kernel
theorem dX8_howWakes_31 : decode cX8_howWakes 31 = .ok (.iastore, 1) := by decide +kernel
theorem dX8_howWakes_32 : decode cX8_howWakes 32 = .ok (.aload_n 3, 1) := by decide +kernel
theorem dX8_howWakes_33 : decode cX8_howWakes 33 = .ok (.iconst 4, 1) := by decide +kernel
theorem dX8_howWakes_34 : decode cX8_howWakes 34 = .ok (.iconst (-1), 1) := by decide +kernel
theorem dX8_howWakes_35 : decode cX8_howWakes 35 = .ok (.iastore, 1) := by decide +kernel
theorem dX8_howWakes_36 : decode cX8_howWakes 36 = .ok (.aload_n 3, 1) := by decide +kernel
theorem dX8_howWakes_37 : decode cX8_howWakes 37 = .ok (.iconst 5, 1) := by decide +kernel
theorem dX8_howWakes_38 : decode cX8_howWakes 38 = .ok (.aload_n 1, 1) := by decide +kernel
theorem dX8_howWakes_39 : decode cX8_howWakes 39 = .ok (.getfield 55, 3) := by decide +kernel
theorem dX8_howWakes_42 : decode cX8_howWakes 42 = .ok (.iload_n 2, 1) := by decide +kernel
theorem dX8_howWakes_43 : decode cX8_howWakes 43 = .ok (.iaload, 1) := by decide +kernel
theorem dX8_howWakes_44 : decode cX8_howWakes 44 = .ok (.iastore, 1) := by decide +kernel
theorem dX8_howWakes_45 : decode cX8_howWakes 45 = .ok (.aload_n 3, 1) := by decide +kernel
theorem dX8_howWakes_46 : decode cX8_howWakes 46 = .ok (.bipush 6, 2) := by decide +kernel
theorem dX8_howWakes_48 : decode cX8_howWakes 48 = .ok (.iconst (-1), 1) := by decide +kernel
theorem dX8_howWakes_49 : decode cX8_howWakes 49 = .ok (.iastore, 1) := by decide +kernel
theorem dX8_howWakes_50 : decode cX8_howWakes 50 = .ok (.aload_n 3, 1) := by decide +kernel
theorem dX8_howWakes_51 : decode cX8_howWakes 51 = .ok (.bipush 7, 2) := by decide +kernel
theorem dX8_howWakes_53 : decode cX8_howWakes 53 = .ok (.aload_n 1, 1) := by decide +kernel
theorem dX8_howWakes_54 : decode cX8_howWakes 54 = .ok (.getfield 60, 3) := by decide +kernel
theorem dX8_howWakes_57 : decode cX8_howWakes 57 = .ok (.iastore, 1) := by decide +kernel
theorem dX8_howWakes_58 : decode cX8_howWakes 58 = .ok (.aload_n 3, 1) := by decide +kernel
theorem dX8_howWakes_59 : decode cX8_howWakes 59 = .ok (.bipush 8, 2) := by decide +kernel
theorem dX8_howWakes_61 : decode cX8_howWakes 61 = .ok (.aload_n 0, 1) := by decide +kernel
theorem dX8_howWakes_62 : decode cX8_howWakes 62 = .ok (.getfield 18, 3) := by decide +kernel
theorem dX8_howWakes_65 : decode cX8_howWakes 65 = .ok (.getfield 64, 3) := by decide +kernel
theorem dX8_howWakes_68 : decode cX8_howWakes 68 = .ok (.iastore, 1) := by decide +kernel
theorem dX8_howWakes_69 : decode cX8_howWakes 69 = .ok (.aload_n 0, 1) := by decide +kernel
theorem dX8_howWakes_70 : decode cX8_howWakes 70 = .ok (.iconst 2, 1) := by decide +kernel
theorem dX8_howWakes_71 : decode cX8_howWakes 71 = .ok (.invokevirtual 45, 3) := by decide +kernel
theorem dX8_howWakes_92 : decode cX8_howWakes 92 = .ok (.ireturn, 1) := by decide +kernel
theorem dX8_howWakes_74 : decode cX8_howWakes 74 = .ok (.ifCond .eq 16, 3) := by decide +kernel
theorem dX8_howWakes_90 : decode cX8_howWakes 90 = .ok (.bipush 100, 2) := by decide +kernel
theorem dX8_howWakes_77 : decode cX8_howWakes 77 = .ok (.aload_n 0, 1) := by decide +kernel
theorem dX8_howWakes_78 : decode cX8_howWakes 78 = .ok (.getfield 67, 3) := by decide +kernel
theorem dX8_howWakes_81 : decode cX8_howWakes 81 = .ok (.sipush 999, 3) := by decide +kernel
theorem dX8_howWakes_84 : decode cX8_howWakes 84 = .ok (.invokestatic 70, 3) := by decide +kernel
theorem dX8_howWakes_87 : decode cX8_howWakes 87 = .ok (.goto 5, 3) := by decide +kernel
set_option maxHeartbeats 4000000 in
set_option maxRecDepth 100000 in
theorem k_X8_howWakes (l : Launch) (D : va_G) (cy : Nat → ClassId) (ld : Nat → Nat) (t : tk_T) (rg1 : Nat) (a0 : Nat) (a1 : Nat) (p2 : Int32) (ht_a0 : t a0 = (9, 0, 0)) (ht_a1 : t a1 = (10, 0, rg1)) (hp_0 : 0 ≤ p2.toInt) (hp_1 : p2.toInt ≤ 7) : Met l yX8_howWakes (wl yX8_howWakes cX8_howWakes 4 (some .int)) ({ frames := 5, cells := 0, slots := 0, locals := 280 }) (tp D cy ld t [] [.ref a0, .ref a1, .int p2] (fun H => True)) (ti D cy ld t [] (fun r H => 0 ≤ r.toInt) (tk_w t [(20, 0, 0), (12, 0, 0), (9, 0, 0)])) 0 0 (tk_w t [(20, 0, 0), (12, 0, 0), (9, 0, 0)]) := by
  refine tk_met (y := yX8_howWakes) (cc := cX8_howWakes) (maxL := 4) (ret := (some .int)) (av := [.ref a0, .ref a1, .int p2]) _ _ (by decide) (Nat.le_of_ble_eq_true rfl) ?_
  intro p e s m args below meth c hx hb hr hml hts htl hown hlocks hK H locs hH hG hS hB hZ ls hl
  have hown : s.vm.findClass RX8 = some m.cls := hown
  have hl : lv_has ls 4 [(0, .ref a0), (1, .ref a1), (2, .int p2)] := hl
  have hr_p2 := tk_rng p2
  refine lv_aload_n hx hb dX8_howWakes_0 rfl (lv_at hl 0 rfl) ?_
  refine tk_get (ci := 8) (C := RX8) (T := TX8) (N := 3) (sp := (6, 12, 0, 0)) hx hb htl inX8 hown hK hG ht_a0 (by decide) tk_no rfl 0 (by decide) (htl _ mw_96) (fun _ h9 => h9) rfl dX8_howWakes_1 (fun v9 hf1 hV9 => ?_)
  obtain ⟨b2, rfl, ht_b2⟩ := hV9
  have ht_b2 : t b2 = (12, 0, 0) := ht_b2
  refine tk_get (ci := 11) (C := RX11) (T := TX11) (N := 3) (sp := (6, 20, 15, 0)) hx hb htl inX11 hown hK hG ht_b2 (by decide) tk_no rfl 0 (by decide) (htl _ mw_917) (fun _ h9 => h9) rfl dX8_howWakes_4 (fun v9 hf3 hV9 => ?_)
  obtain ⟨b4, rfl, ht_b4⟩ := hV9
  have ht_b4 : t b4 = (20, 15, 0) := ht_b4
  refine lv_astore_n (lv' := [(3, .ref b4), (0, .ref a0), (1, .ref a1), (2, .int p2)]) hx hb dX8_howWakes_7 rfl hl (by decide) rfl (fun ls hl => ?_)
  refine lv_aload_n hx hb dX8_howWakes_8 rfl (lv_at hl 0 rfl) ?_
  refine lv_iconst (v := 0) hx hb dX8_howWakes_9 (by decide) ?_
  refine lv_aload_n hx hb dX8_howWakes_10 rfl (lv_at hl 1 rfl) ?_
  refine tk_get (ci := 8) (C := RX8) (T := TX8) (N := 3) (sp := (8, 20, 3, 0)) hx hb htl inX8 hown hK hG ht_a0 (by decide) tk_no rfl 1 (by decide) (htl _ mw_97) (fun _ h9 => h9) rfl dX8_howWakes_11 (fun v9 hf5 hV9 => ?_)
  obtain ⟨rfl, ht_ld20⟩ := hV9
  have ht_ld20 : t (ld 20) = (3, 0, 0) := ht_ld20
  refine fx_top (v := .ref (ld 20)) rfl ?_
  refine tk_get (ci := 2) (C := RX2) (T := TX2) (N := 20) (sp := (1, 20, 8, 0)) hx hb htl inX2 hown hK hG ht_ld20 (by decide) tk_no rfl 1 (by decide) (htl _ mw_919) (fun _ h9 => h9) rfl dX8_howWakes_14 (fun v9 hf6 hV9 => ?_)
  obtain ⟨b7, rfl, ht_b7⟩ := hV9
  have ht_b7 : t b7 = (20, 8, 0) := ht_b7
  refine lv_iload_n hx hb dX8_howWakes_17 rfl (lv_at hl 3 rfl) ?_
  refine tk_iald hx hb hK hG ht_b7 (by decide) (fun _ h => h) tk_no rfl (by omega) (by omega) dX8_howWakes_18 (fun v8 _ _ => ?_)
  have hr_v8 := tk_rng v8
  refine tk_iast hx hb hK hG hS ht_b4 (by decide) (fun _ => Iff.rfl) tk_no (I := 0) (by decide) (by decide) (by decide) trivial (tk_w.of ht_b4 (by decide) (List.mem_of_getElem? (i := 0) rfl) (Nat.le_refl _) (Nat.le_refl _)) dX8_howWakes_19 (fun H locs hG hS hq9 => ?_)
  refine lv_aload_n hx hb dX8_howWakes_20 rfl (lv_at hl 0 rfl) ?_
  refine lv_iconst (v := 1) hx hb dX8_howWakes_21 (by decide) ?_
  refine lv_iconst (v := (-1)) hx hb dX8_howWakes_22 (by decide) ?_
  refine tk_iast hx hb hK hG hS ht_b4 (by decide) (fun _ => Iff.rfl) tk_no (I := 1) (by decide) (by decide) (by decide) trivial (tk_w.of ht_b4 (by decide) (List.mem_of_getElem? (i := 0) rfl) (Nat.le_refl _) (Nat.le_refl _)) dX8_howWakes_23 (fun H locs hG hS hq9 => ?_)
  refine lv_aload_n hx hb dX8_howWakes_24 rfl (lv_at hl 0 rfl) ?_
  refine lv_iconst (v := 2) hx hb dX8_howWakes_25 (by decide) ?_
  refine lv_iconst (v := (-1)) hx hb dX8_howWakes_26 (by decide) ?_
  refine tk_iast hx hb hK hG hS ht_b4 (by decide) (fun _ => Iff.rfl) tk_no (I := 2) (by decide) (by decide) (by decide) trivial (tk_w.of ht_b4 (by decide) (List.mem_of_getElem? (i := 0) rfl) (Nat.le_refl _) (Nat.le_refl _)) dX8_howWakes_27 (fun H locs hG hS hq9 => ?_)
  refine lv_aload_n hx hb dX8_howWakes_28 rfl (lv_at hl 0 rfl) ?_
  refine lv_iconst (v := 3) hx hb dX8_howWakes_29 (by decide) ?_
  refine lv_iconst (v := (-1)) hx hb dX8_howWakes_30 (by decide) ?_
  refine tk_iast hx hb hK hG hS ht_b4 (by decide) (fun _ => Iff.rfl) tk_no (I := 3) (by decide) (by decide) (by decide) trivial (tk_w.of ht_b4 (by decide) (List.mem_of_getElem? (i := 0) rfl) (Nat.le_refl _) (Nat.le_refl _)) dX8_howWakes_31 (fun H locs hG hS hq9 => ?_)
  refine lv_aload_n hx hb dX8_howWakes_32 rfl (lv_at hl 0 rfl) ?_
  refine lv_iconst (v := 4) hx hb dX8_howWakes_33 (by decide) ?_
  refine lv_iconst (v := (-1)) hx hb dX8_howWakes_34 (by decide) ?_
  refine tk_iast hx hb hK hG hS ht_b4 (by decide) (fun _ => Iff.rfl) tk_no (I := 4) (by decide) (by decide) (by decide) trivial (tk_w.of ht_b4 (by decide) (List.mem_of_getElem? (i := 0) rfl) (Nat.le_refl _) (Nat.le_refl _)) dX8_howWakes_35 (fun H locs hG hS hq9 => ?_)
  refine lv_aload_n hx hb dX8_howWakes_36 rfl (lv_at hl 0 rfl) ?_
  refine lv_iconst (v := 5) hx hb dX8_howWakes_37 (by decide) ?_
  refine lv_aload_n hx hb dX8_howWakes_38 rfl (lv_at hl 2 rfl) ?_
  refine tk_get (ci := 9) (C := RX9) (T := TX9) (N := 11) (sp := (1, 20, 8, 0)) hx hb htl inX9 hown hK hG ht_a1 (by decide) tk_no rfl 0 (by decide) (htl _ mw_918) (fun _ h9 => h9) rfl dX8_howWakes_39 (fun v9 hf14 hV9 => ?_)
  obtain ⟨b15, rfl, ht_b15⟩ := hV9
  have ht_b15 : t b15 = (20, 8, rg1) := ht_b15
  refine lv_iload_n hx hb dX8_howWakes_42 rfl (lv_at hl 3 rfl) ?_
  refine tk_iald hx hb hK hG ht_b15 (by decide) (fun _ h => h) tk_no rfl (by omega) (by omega) dX8_howWakes_43 (fun v16 _ _ => ?_)
  have hr_v16 := tk_rng v16
  refine tk_iast hx hb hK hG hS ht_b4 (by decide) (fun _ => Iff.rfl) tk_no (I := 5) (by decide) (by decide) (by decide) trivial (tk_w.of ht_b4 (by decide) (List.mem_of_getElem? (i := 0) rfl) (Nat.le_refl _) (Nat.le_refl _)) dX8_howWakes_44 (fun H locs hG hS hq9 => ?_)
  refine lv_aload_n hx hb dX8_howWakes_45 rfl (lv_at hl 0 rfl) ?_
  refine lv_bipush (v := 6) hx hb dX8_howWakes_46 (by decide) ?_
  refine lv_iconst (v := (-1)) hx hb dX8_howWakes_48 (by decide) ?_
  refine tk_iast hx hb hK hG hS ht_b4 (by decide) (fun _ => Iff.rfl) tk_no (I := 6) (by decide) (by decide) (by decide) trivial (tk_w.of ht_b4 (by decide) (List.mem_of_getElem? (i := 0) rfl) (Nat.le_refl _) (Nat.le_refl _)) dX8_howWakes_49 (fun H locs hG hS hq9 => ?_)
  refine lv_aload_n hx hb dX8_howWakes_50 rfl (lv_at hl 0 rfl) ?_
  refine lv_bipush (v := 7) hx hb dX8_howWakes_51 (by decide) ?_
  refine lv_aload_n hx hb dX8_howWakes_53 rfl (lv_at hl 2 rfl) ?_
  refine tk_get (ci := 9) (C := RX9) (T := TX9) (N := 11) (sp := (0, (-2147483648), 2147483647, 0)) hx hb htl inX9 hown hK hG ht_a1 (by decide) tk_no rfl 4 (by decide) (htl _ mw_920) (fun _ h9 => h9) rfl dX8_howWakes_54 (fun v9 hf19 hV9 => ?_)
  obtain ⟨v20, rfl, ha_v20, hb_v20⟩ := hV9
  refine tk_iast hx hb hK hG hS ht_b4 (by decide) (fun _ => Iff.rfl) tk_no (I := 7) (by decide) (by decide) (by decide) trivial (tk_w.of ht_b4 (by decide) (List.mem_of_getElem? (i := 0) rfl) (Nat.le_refl _) (Nat.le_refl _)) dX8_howWakes_57 (fun H locs hG hS hq9 => ?_)
  refine lv_aload_n hx hb dX8_howWakes_58 rfl (lv_at hl 0 rfl) ?_
  refine lv_bipush (v := 8) hx hb dX8_howWakes_59 (by decide) ?_
  refine lv_aload_n hx hb dX8_howWakes_61 rfl (lv_at hl 1 rfl) ?_
  refine tk_get (ci := 8) (C := RX8) (T := TX8) (N := 3) (sp := (8, 20, 3, 0)) hx hb htl inX8 hown hK hG ht_a0 (by decide) tk_no rfl 1 (by decide) (htl _ mw_97) (fun _ h9 => h9) rfl dX8_howWakes_62 (fun v9 hf22 hV9 => ?_)
  obtain ⟨rfl, ht_ld20⟩ := hV9
  have ht_ld20 : t (ld 20) = (3, 0, 0) := ht_ld20
  refine fx_top (v := .ref (ld 20)) rfl ?_
  refine tk_get (ci := 2) (C := RX2) (T := TX2) (N := 20) (sp := (0, (-2147483648), 2147483647, 0)) hx hb htl inX2 hown hK hG ht_ld20 (by decide) tk_no rfl 18 (by decide) (htl _ mw_931) (fun _ h9 => h9) rfl dX8_howWakes_65 (fun v9 hf23 hV9 => ?_)
  obtain ⟨v24, rfl, ha_v24, hb_v24⟩ := hV9
  refine tk_iast hx hb hK hG hS ht_b4 (by decide) (fun _ => Iff.rfl) tk_no (I := 8) (by decide) (by decide) (by decide) trivial (tk_w.of ht_b4 (by decide) (List.mem_of_getElem? (i := 0) rfl) (Nat.le_refl _) (Nat.le_refl _)) dX8_howWakes_68 (fun H locs hG hS hq9 => ?_)
  refine lv_aload_n hx hb dX8_howWakes_69 rfl (lv_at hl 1 rfl) ?_
  refine lv_iconst (v := 2) hx hb dX8_howWakes_70 (by decide) ?_
  have hk_2 : (2 : Int32).toInt = 2 := by decide
  refine tk_Vi (As := [.int 2]) (rest := []) (ci := 8) ⟨hx, hb, hml, hown, hts⟩ hK hG hZ hS (k_X8_isTold l D cy ld t a0 2 ht_a0) trivial ⟨callB_of 1 hts (wl_in mw_935) rfl rfl rfl (htl _ mw_21) (htl _ mw_932) hd_yX8_isTold ⟨(Nat.le_of_ble_eq_true rfl), (Nat.le_of_ble_eq_true rfl)⟩, htl _ mw_933, htl _ mw_934⟩ ht_a0 (by decide) tk_no rfl (tk_w.pick [1, 0, 2] rfl) rfl hl.1 rfl (Nat.le_of_ble_eq_true rfl) dX8_howWakes_71 ⟨(Nat.le_of_ble_eq_true rfl), (Nat.le_of_ble_eq_true rfl)⟩ (fun v26 H locs hpo hG hS hq9 => ?_)
  obtain ⟨hpo28, hpo29, hpo30, hpo31⟩ := hpo
  have hj42 : ∀ (v40 : Int32) (H : Heap) (locs : List Loc), 0 ≤ v40.toInt → tk_G D cy ld t [] H → va_S (tk_w t [(20, 0, 0), (12, 0, 0), (9, 0, 0)]) s.heap H locs → ∀ ls : Array Slot, lv_has ls 4 [] → W p l e ({ frames := 5, cells := 0, slots := 0, locals := 280 }) s m args below meth c H locs 0 0 (MQ below (ti D cy ld t [] (fun r H => 0 ≤ r.toInt) (tk_w t [(20, 0, 0), (12, 0, 0), (9, 0, 0)])) args s 0 0 (tk_w t [(20, 0, 0), (12, 0, 0), (9, 0, 0)])) (F0 m 92 ls [.int v40]) := by
    intro v40 H locs hq0_j42 hG hS ls hl
    exact tk_iret (v := v40) hx hb hr rfl hlocks (show 0 ≤ v40.toInt from (by omega)) hG hS dX8_howWakes_92
  refine lv_if_eq (tgt := 90) hx hb dX8_howWakes_74 (by decide) (fun c9 => ?_) (fun c9 => ?_)
  · have hc32 : v26.toInt = 0 := (fi_eq rfl (by decide)).mp c9
    refine lv_bipush (v := 100) hx hb dX8_howWakes_90 (by decide) ?_
    have hk_100 : (100 : Int32).toInt = 100 := by decide
    exact hj42 100 _ _ (by omega) hG hS _ (lv_sub hl [] rfl)
  · have hc32 : ¬ (v26.toInt = 0) := fun h9 => c9 ((fi_eq rfl (by decide)).mpr h9)
    refine lv_aload_n hx hb dX8_howWakes_77 rfl (lv_at hl 1 rfl) ?_
    refine tk_get (ci := 8) (C := RX8) (T := TX8) (N := 3) (sp := (0, (-2147483648), 2147483647, 0)) hx hb htl inX8 hown hK hG ht_a0 (by decide) tk_no rfl 2 (by decide) (htl _ mw_939) (fun _ h9 => h9) rfl dX8_howWakes_78 (fun v9 hf43 hV9 => ?_)
    obtain ⟨v44, rfl, ha_v44, hb_v44⟩ := hV9
    refine lv_sipush (v := 999) hx hb dX8_howWakes_81 (by decide) ?_
    have hk_999 : (999 : Int32).toInt = 999 := by decide
    refine tk_Si (As := [.int v44, .int 999]) (rest := []) ⟨hx, hb, hml, hown, hts⟩ hK hG hZ hS (k_X8_nearest l D cy ld t _ v44 999) trivial ⟨callB_of 2 hts (wl_in mw_960) rfl rfl rfl (htl _ mw_21) (htl _ mw_958) hd_yX8_nearest ⟨(Nat.le_of_ble_eq_true rfl), (Nat.le_of_ble_eq_true rfl)⟩, htl _ mw_959⟩ (tk_w.pick [] rfl) rfl hl.1 rfl (Nat.le_of_ble_eq_true rfl) dX8_howWakes_84 ⟨(Nat.le_of_ble_eq_true rfl), (Nat.le_of_ble_eq_true rfl)⟩ (fun v45 H locs hpo hG hS hq9 => ?_)
    have hpo47 := hpo
    refine lv_goto (tgt := 92) hx hb dX8_howWakes_87 (by decide) ?_
    exact hj42 v45 _ _ (by omega) hG hS _ (lv_sub hl [] rfl)
theorem dX8_dawnOn_0 : decode cX8_dawnOn 0 = .ok (.iconst 0, 1) := by decide +kernel
theorem dX8_dawnOn_1 : decode cX8_dawnOn 1 = .ok (.istore_n 2, 1) := by decide +kernel
theorem dX8_dawnOn_2 : decode cX8_dawnOn 2 = .ok (.aload_n 1, 1) := by decide +kernel
theorem dX8_dawnOn_3 : decode cX8_dawnOn 3 = .ok (.dup, 1) := by decide +kernel
theorem dX8_dawnOn_4 : decode cX8_dawnOn 4 = .ok (.getfield 60, 3) := by decide +kernel
theorem dX8_dawnOn_7 : decode cX8_dawnOn 7 = .ok (.iconst 1, 1) := by decide +kernel
theorem dX8_dawnOn_8 : decode cX8_dawnOn 8 = .ok (.iadd, 1) := by decide +kernel
theorem dX8_dawnOn_9 : decode cX8_dawnOn 9 = .ok (.putfield 60, 3) := by decide +kernel
theorem dX8_dawnOn_12 : decode cX8_dawnOn 12 = .ok (.iconst 0, 1) := by decide +kernel
theorem dX8_dawnOn_13 : decode cX8_dawnOn 13 = .ok (.istore_n 3, 1) := by decide +kernel
theorem dX8_dawnOn_14 : decode cX8_dawnOn 14 = .ok (.iload_n 3, 1) := by decide +kernel
theorem dX8_dawnOn_15 : decode cX8_dawnOn 15 = .ok (.aload_n 0, 1) := by decide +kernel
theorem dX8_dawnOn_16 : decode cX8_dawnOn 16 = .ok (.getfield 18, 3) := by decide +kernel
theorem dX8_dawnOn_19 : decode cX8_dawnOn 19 = .ok (.getfield 125, 3) := by decide +kernel
theorem dX8_dawnOn_22 : decode cX8_dawnOn 22 = .ok (.if_icmp .ge 50, 3) := by decide +kernel
theorem dX8_dawnOn_72 : decode cX8_dawnOn 72 = .ok (.iload_n 2, 1) := by decide +kernel
theorem dX8_dawnOn_73 : decode cX8_dawnOn 73 = .ok (.ireturn, 1) := by decide +kernel
theorem dX8_dawnOn_25 : decode cX8_dawnOn 25 = .ok (.iload_n 2, 1) := by decide +kernel
theorem dX8_dawnOn_26 : decode cX8_dawnOn 26 = .ok (.aload_n 1, 1) := by decide +kernel
theorem dX8_dawnOn_27 : decode cX8_dawnOn 27 = .ok (.getfield 109, 3) := by decide +kernel
theorem dX8_dawnOn_30 : decode cX8_dawnOn 30 = .ok (.iload_n 3, 1) := by decide +kernel
theorem dX8_dawnOn_31 : decode cX8_dawnOn 31 = .ok (.iaload, 1) := by decide +kernel
theorem dX8_dawnOn_32 : decode cX8_dawnOn 32 = .ok (.iadd, 1) := by decide +kernel
theorem dX8_dawnOn_33 : decode cX8_dawnOn 33 = .ok (.istore_n 2, 1) := by decide +kernel
theorem dX8_dawnOn_34 : decode cX8_dawnOn 34 = .ok (.aload_n 1, 1) := by decide +kernel
theorem dX8_dawnOn_35 : decode cX8_dawnOn 35 = .ok (.getfield 55, 3) := by decide +kernel
theorem dX8_dawnOn_38 : decode cX8_dawnOn 38 = .ok (.iload_n 3, 1) := by decide +kernel
theorem dX8_dawnOn_39 : decode cX8_dawnOn 39 = .ok (.sipush 999, 3) := by decide +kernel
theorem dX8_dawnOn_42 : decode cX8_dawnOn 42 = .ok (.aload_n 1, 1) := by decide +kernel
theorem dX8_dawnOn_43 : decode cX8_dawnOn 43 = .ok (.getfield 55, 3) := by decide +kernel
theorem dX8_dawnOn_46 : decode cX8_dawnOn 46 = .ok (.iload_n 3, 1) := by decide +kernel
theorem dX8_dawnOn_47 : decode cX8_dawnOn 47 = .ok (.iaload, 1) := by decide +kernel
theorem dX8_dawnOn_48 : decode cX8_dawnOn 48 = .ok (.aload_n 0, 1) := by decide +kernel
theorem dX8_dawnOn_49 : decode cX8_dawnOn 49 = .ok (.aload_n 1, 1) := by decide +kernel
theorem dX8_dawnOn_50 : decode cX8_dawnOn 50 = .ok (.iload_n 3, 1) := by decide +kernel
theorem dX8_dawnOn_51 : decode cX8_dawnOn 51 = .ok (.invokevirtual 128, 3) := by decide +kernel
theorem dX8_dawnOn_54 : decode cX8_dawnOn 54 = .ok (.iadd, 1) := by decide +kernel
theorem dX8_dawnOn_55 : decode cX8_dawnOn 55 = .ok (.invokestatic 132, 3) := by decide +kernel
theorem dX8_dawnOn_58 : decode cX8_dawnOn 58 = .ok (.iastore, 1) := by decide +kernel
theorem dX8_dawnOn_59 : decode cX8_dawnOn 59 = .ok (.aload_n 1, 1) := by decide +kernel
theorem dX8_dawnOn_60 : decode cX8_dawnOn 60 = .ok (.getfield 109, 3) := by decide +kernel
theorem dX8_dawnOn_63 : decode cX8_dawnOn 63 = .ok (.iload_n 3, 1) := by decide +kernel
theorem dX8_dawnOn_64 : decode cX8_dawnOn 64 = .ok (.iconst 0, 1) := by decide +kernel
theorem dX8_dawnOn_65 : decode cX8_dawnOn 65 = .ok (.iastore, 1) := by decide +kernel
theorem dX8_dawnOn_66 : decode cX8_dawnOn 66 = .ok (.iinc 3 1, 3) := by decide +kernel
theorem dX8_dawnOn_69 : decode cX8_dawnOn 69 = .ok (.goto (-55), 3) := by decide +kernel
set_option maxHeartbeats 4000000 in
set_option maxRecDepth 100000 in
theorem k_X8_dawnOn (l : Launch) (D : va_G) (cy : Nat → ClassId) (ld : Nat → Nat) (t : tk_T) (rg1 : Nat) (a0 : Nat) (a1 : Nat) (ht_a0 : t a0 = (9, 0, 0)) (ht_a1 : t a1 = (10, 0, rg1)) : Met l yX8_dawnOn (wl yX8_dawnOn cX8_dawnOn 4 (some .int)) ({ frames := 6, cells := 0, slots := 0, locals := 350 }) (tp D cy ld t [] [.ref a0, .ref a1] (fun H => True)) (ti D cy ld t [] (fun r H => True) (tk_w t [(10, rg1, rg1), (20, 0, 0), (12, 0, 0), (9, 0, 0), (20, rg1, rg1)])) 0 0 (tk_w t [(10, rg1, rg1), (20, 0, 0), (12, 0, 0), (9, 0, 0), (20, rg1, rg1)]) := by
  refine tk_met (y := yX8_dawnOn) (cc := cX8_dawnOn) (maxL := 4) (ret := (some .int)) (av := [.ref a0, .ref a1]) _ _ (by decide) (Nat.le_of_ble_eq_true rfl) ?_
  intro p e s m args below meth c hx hb hr hml hts htl hown hlocks hK H locs hH hG hS hB hZ ls hl
  have hown : s.vm.findClass RX8 = some m.cls := hown
  have hl : lv_has ls 4 [(0, .ref a0), (1, .ref a1)] := hl
  refine lv_iconst (v := 0) hx hb dX8_dawnOn_0 (by decide) ?_
  refine lv_istore_n (lv' := [(2, .int 0), (0, .ref a0), (1, .ref a1)]) hx hb dX8_dawnOn_1 rfl hl (by decide) rfl (fun ls hl => ?_)
  refine lv_aload_n hx hb dX8_dawnOn_2 rfl (lv_at hl 2 rfl) ?_
  refine lv_dup hx hb dX8_dawnOn_3 rfl ?_
  refine tk_get (ci := 9) (C := RX9) (T := TX9) (N := 11) (sp := (0, (-2147483648), 2147483647, 0)) hx hb htl inX9 hown hK hG ht_a1 (by decide) tk_no rfl 4 (by decide) (htl _ mw_920) (fun _ h9 => h9) rfl dX8_dawnOn_4 (fun v9 hf1 hV9 => ?_)
  obtain ⟨v2, rfl, ha_v2, hb_v2⟩ := hV9
  refine lv_iconst (v := 1) hx hb dX8_dawnOn_7 (by decide) ?_
  refine lv_iadd hx hb dX8_dawnOn_8 ?_
  obtain ⟨v3, hm_v3⟩ : ∃ z : Int32, v2 + 1 = z := ⟨_, rfl⟩
  refine fx_ti hm_v3 ?_
  refine tk_put (ci := 9) (v := .int v3) (ty := .int) (C := RX9) (T := TX9) (N := 11) (sp := (0, (-2147483648), 2147483647, 0)) hx hb htl inX9 tyX9 tyX9_ok nmX9 hown hK hG hS ht_a1 (by decide) tk_no rfl 4 (by decide) (htl _ mw_920) (fun _ h9 => h9) rfl (tyX9_ok 4 (by decide)) rfl rfl rfl (tk_Vi (tk_rng _).1 (tk_rng _).2) (fun _ h => tk_X10 h (by decide) (by decide)) (tk_w.of ht_a1 (by decide) (List.mem_of_getElem? (i := 0) rfl) (Nat.le_refl _) (Nat.le_refl _)) dX8_dawnOn_9 (fun H locs hG hS hf4 hq9 hj9 => ?_)
  refine lv_iconst (v := 0) hx hb dX8_dawnOn_12 (by decide) ?_
  refine lv_istore_n (lv' := [(3, .int 0), (2, .int 0), (0, .ref a0), (1, .ref a1)]) hx hb dX8_dawnOn_13 rfl hl (by decide) rfl (fun ls hl => ?_)
  have hl303 : ∀ (N : Nat) (v6 : Int32) (v7 : Int32) (H : Heap) (locs : List Loc), v6.toInt ≤ 8 → 0 ≤ v6.toInt → (-1) * v6.toInt + 8 < (N : Int) → tk_G D cy ld t [] H → va_S (tk_w t [(10, rg1, rg1), (20, 0, 0), (12, 0, 0), (9, 0, 0), (20, rg1, rg1)]) s.heap H locs → ∀ ls : Array Slot, lv_has ls 4 [(3, .int v6), (2, .int v7), (0, .ref a0), (1, .ref a1)] → W p l e ({ frames := 6, cells := 0, slots := 0, locals := 350 }) s m args below meth c H locs 0 0 (MQ below (ti D cy ld t [] (fun r H => True) (tk_w t [(10, rg1, rg1), (20, 0, 0), (12, 0, 0), (9, 0, 0), (20, rg1, rg1)])) args s 0 0 (tk_w t [(10, rg1, rg1), (20, 0, 0), (12, 0, 0), (9, 0, 0), (20, rg1, rg1)])) (F0 m 14 ls []) := by
    intro N
    induction N with
    | zero => intro v6 v7 H locs hq0_l303 hq1_l303 hm_l303 hG hS ls hl; exfalso; omega
    | succ N ih =>
      intro v6 v7 H locs hq0_l303 hq1_l303 hm_l303 hG hS ls hl
      refine lv_iload_n hx hb dX8_dawnOn_14 rfl (lv_at hl 0 rfl) ?_
      refine lv_aload_n hx hb dX8_dawnOn_15 rfl (lv_at hl 2 rfl) ?_
      refine tk_get (ci := 8) (C := RX8) (T := TX8) (N := 3) (sp := (8, 20, 3, 0)) hx hb htl inX8 hown hK hG ht_a0 (by decide) tk_no rfl 1 (by decide) (htl _ mw_97) (fun _ h9 => h9) rfl dX8_dawnOn_16 (fun v9 hf304 hV9 => ?_)
      obtain ⟨rfl, ht_ld20⟩ := hV9
      have ht_ld20 : t (ld 20) = (3, 0, 0) := ht_ld20
      refine fx_top (v := .ref (ld 20)) rfl ?_
      refine tk_get (ci := 2) (C := RX2) (T := TX2) (N := 20) (sp := (0, 0, 8, 0)) hx hb htl inX2 hown hK hG ht_ld20 (by decide) tk_no rfl 0 (by decide) (htl _ mw_996) (fun _ h9 => h9) rfl dX8_dawnOn_19 (fun v9 hf305 hV9 => ?_)
      obtain ⟨v306, rfl, ha_v306, hb_v306⟩ := hV9
      refine lv_icmp_ge (tgt := 72) hx hb dX8_dawnOn_22 (by decide) (fun c9 => ?_) (fun c9 => ?_)
      · have hc307 : v306.toInt ≤ v6.toInt := (fi_le rfl rfl).mp c9
        refine lv_iload_n hx hb dX8_dawnOn_72 rfl (lv_at hl 1 rfl) ?_
        exact tk_iret (v := v7) hx hb hr rfl hlocks trivial hG hS dX8_dawnOn_73
      · have hc307 : ¬ (v306.toInt ≤ v6.toInt) := fun h9 => c9 ((fi_le rfl rfl).mpr h9)
        refine lv_iload_n hx hb dX8_dawnOn_25 rfl (lv_at hl 1 rfl) ?_
        refine lv_aload_n hx hb dX8_dawnOn_26 rfl (lv_at hl 3 rfl) ?_
        refine tk_get (ci := 9) (C := RX9) (T := TX9) (N := 11) (sp := (1, 20, 8, 0)) hx hb htl inX9 hown hK hG ht_a1 (by decide) tk_no rfl 1 (by decide) (htl _ mw_952) (fun _ h9 => h9) rfl dX8_dawnOn_27 (fun v9 hf327 hV9 => ?_)
        obtain ⟨b328, rfl, ht_b328⟩ := hV9
        have ht_b328 : t b328 = (20, 8, rg1) := ht_b328
        refine lv_iload_n hx hb dX8_dawnOn_30 rfl (lv_at hl 0 rfl) ?_
        refine tk_iald hx hb hK hG ht_b328 (by decide) (fun _ h => h) tk_no rfl (by omega) (by omega) dX8_dawnOn_31 (fun v329 _ _ => ?_)
        have hr_v329 := tk_rng v329
        refine lv_iadd hx hb dX8_dawnOn_32 ?_
        obtain ⟨v330, hm_v330⟩ : ∃ z : Int32, v7 + v329 = z := ⟨_, rfl⟩
        refine fx_ti hm_v330 ?_
        refine lv_istore_n (lv' := [(2, .int v330), (3, .int v6), (0, .ref a0), (1, .ref a1)]) hx hb dX8_dawnOn_33 rfl hl (by decide) rfl (fun ls hl => ?_)
        refine lv_aload_n hx hb dX8_dawnOn_34 rfl (lv_at hl 3 rfl) ?_
        refine tk_get (ci := 9) (C := RX9) (T := TX9) (N := 11) (sp := (1, 20, 8, 0)) hx hb htl inX9 hown hK hG ht_a1 (by decide) tk_no rfl 0 (by decide) (htl _ mw_918) (fun _ h9 => h9) rfl dX8_dawnOn_35 (fun v9 hf331 hV9 => ?_)
        obtain ⟨b332, rfl, ht_b332⟩ := hV9
        have ht_b332 : t b332 = (20, 8, rg1) := ht_b332
        refine lv_iload_n hx hb dX8_dawnOn_38 rfl (lv_at hl 1 rfl) ?_
        refine lv_sipush (v := 999) hx hb dX8_dawnOn_39 (by decide) ?_
        refine lv_aload_n hx hb dX8_dawnOn_42 rfl (lv_at hl 3 rfl) ?_
        refine tk_get (ci := 9) (C := RX9) (T := TX9) (N := 11) (sp := (1, 20, 8, 0)) hx hb htl inX9 hown hK hG ht_a1 (by decide) tk_no rfl 0 (by decide) (htl _ mw_918) (fun _ h9 => h9) rfl dX8_dawnOn_43 (fun v9 hf333 hV9 => ?_)
        obtain ⟨b334, rfl, ht_b334⟩ := hV9
        have ht_b334 : t b334 = (20, 8, rg1) := ht_b334
        refine lv_iload_n hx hb dX8_dawnOn_46 rfl (lv_at hl 1 rfl) ?_
        refine tk_iald hx hb hK hG ht_b334 (by decide) (fun _ h => h) tk_no rfl (by omega) (by omega) dX8_dawnOn_47 (fun v335 _ _ => ?_)
        have hr_v335 := tk_rng v335
        refine lv_aload_n hx hb dX8_dawnOn_48 rfl (lv_at hl 2 rfl) ?_
        refine lv_aload_n hx hb dX8_dawnOn_49 rfl (lv_at hl 3 rfl) ?_
        refine lv_iload_n hx hb dX8_dawnOn_50 rfl (lv_at hl 1 rfl) ?_
        refine tk_Vi (As := [.ref a1, .int v6]) (rest := [.int v335, .int 999, .int v6, .ref b332]) (ci := 8) ⟨hx, hb, hml, hown, hts⟩ hK hG hZ hS (k_X8_howWakes l D cy ld t rg1 a0 a1 v6 ht_a0 ht_a1 (by omega) (by omega)) trivial ⟨callB_of 2 hts (wl_in mw_1000) rfl rfl rfl (htl _ mw_21) (htl _ mw_997) hd_yX8_howWakes ⟨(Nat.le_of_ble_eq_true rfl), (Nat.le_of_ble_eq_true rfl)⟩, htl _ mw_998, htl _ mw_999⟩ ht_a0 (by decide) tk_no rfl (tk_w.pick [1, 2, 3] rfl) rfl hl.1 rfl (Nat.le_of_ble_eq_true rfl) dX8_dawnOn_51 ⟨(Nat.le_of_ble_eq_true rfl), (Nat.le_of_ble_eq_true rfl)⟩ (fun v336 H locs hpo hG hS hq9 => ?_)
        have hf305 := hf305.call hq9 (tk_w.no ht_ld20 (by decide))
        have hpo338 := hpo
        refine lv_iadd hx hb dX8_dawnOn_54 ?_
        obtain ⟨v339, hm_v339⟩ : ∃ z : Int32, v335 + v336 = z := ⟨_, rfl⟩
        refine fx_ti hm_v339 ?_
        refine va_mmin hx hb (by rw [hml]; exact hl.1.symm) hown (htl _ mw_961) (htl _ mw_473) (htl _ mw_474) (htl _ mw_475) (Nat.le_of_ble_eq_true rfl) (Nat.le_of_ble_eq_true rfl) (Nat.le_of_ble_eq_true rfl) (Nat.le_of_ble_eq_true rfl) dX8_dawnOn_55 ?_
        refine tk_say (P := fun z => z.toInt ≤ 999 ∧ z.toInt ≤ v339.toInt ∧ (z.toInt = 999 ∨ z.toInt = v339.toInt)) (tk_min (by decide) rfl) (fun v340 h_v340 => ?_)
        refine tk_iast hx hb hK hG hS ht_b332 (by decide) (fun _ => Iff.rfl) tk_no rfl (by omega) (by omega) trivial (tk_w.of ht_b332 (by decide) (List.mem_of_getElem? (i := 4) rfl) (Nat.le_refl _) (Nat.le_refl _)) dX8_dawnOn_58 (fun H locs hG hS hq9 => ?_)
        have hf305 := hf305.kept (hq9 _ (tk_ne ht_ld20 ht_b332 (Or.inl (by decide))))
        refine lv_aload_n hx hb dX8_dawnOn_59 rfl (lv_at hl 3 rfl) ?_
        refine tk_get (ci := 9) (C := RX9) (T := TX9) (N := 11) (sp := (1, 20, 8, 0)) hx hb htl inX9 hown hK hG ht_a1 (by decide) tk_no rfl 1 (by decide) (htl _ mw_952) (fun _ h9 => h9) rfl dX8_dawnOn_60 (fun v9 hf342 hV9 => ?_)
        obtain ⟨b343, rfl, ht_b343⟩ := hV9
        have ht_b343 : t b343 = (20, 8, rg1) := ht_b343
        refine lv_iload_n hx hb dX8_dawnOn_63 rfl (lv_at hl 1 rfl) ?_
        refine lv_iconst (v := 0) hx hb dX8_dawnOn_64 (by decide) ?_
        refine tk_iast hx hb hK hG hS ht_b343 (by decide) (fun _ => Iff.rfl) tk_no rfl (by omega) (by omega) trivial (tk_w.of ht_b343 (by decide) (List.mem_of_getElem? (i := 4) rfl) (Nat.le_refl _) (Nat.le_refl _)) dX8_dawnOn_65 (fun H locs hG hS hq9 => ?_)
        have hf305 := hf305.kept (hq9 _ (tk_ne ht_ld20 ht_b343 (Or.inl (by decide))))
        obtain ⟨v345, h_v345, e_v345⟩ := tk_inc v6 1 (by decide) (by omega) (by omega)
        refine lv_iinc (v := v345) (lv' := [(3, .int v345), (2, .int v330), (0, .ref a0), (1, .ref a1)]) hx hb dX8_dawnOn_66 hl (k := 1) rfl e_v345 (by decide) rfl (fun ls hl => ?_)
        refine lv_goto (tgt := 14) hx hb dX8_dawnOn_69 (by decide) ?_
        exact ih v345 v330 _ _ (by omega) (by omega) (by omega) hG hS _ (lv_sub hl [0, 1, 2, 3] rfl)
  have hk_0 : (0 : Int32).toInt = 0 := by decide
  have hk_0 : (0 : Int32).toInt = 0 := by decide
  exact hl303 9 0 0 _ _ (by omega) (by omega) (by omega) hG hS _ (lv_sub hl [0, 1, 2, 3] rfl)
theorem dX1_nextDay_0 : decode cX1_nextDay 0 = .ok (.aload_n 0, 1) := by decide +kernel
theorem dX1_nextDay_1 : decode cX1_nextDay 1 = .ok (.getfield 32, 3) := by decide +kernel
theorem dX1_nextDay_4 : decode cX1_nextDay 4 = .ok (.getfield 50, 3) := by decide +kernel
theorem dX1_nextDay_7 : decode cX1_nextDay 7 = .ok (.invokevirtual 53, 3) := by decide +kernel
theorem dX1_nextDay_10 : decode cX1_nextDay 10 = .ok (.ifCond .ne 19, 3) := by decide +kernel
theorem dX1_nextDay_29 : decode cX1_nextDay 29 = .ok (.bipush (-3), 2) := by decide +kernel
theorem dX1_nextDay_31 : decode cX1_nextDay 31 = .ok (.ireturn, 1) := by decide +kernel
theorem dX1_nextDay_13 : decode cX1_nextDay 13 = .ok (.aload_n 0, 1) := by decide +kernel
theorem dX1_nextDay_14 : decode cX1_nextDay 14 = .ok (.getfield 32, 3) := by decide +kernel
theorem dX1_nextDay_17 : decode cX1_nextDay 17 = .ok (.getfield 50, 3) := by decide +kernel
theorem dX1_nextDay_20 : decode cX1_nextDay 20 = .ok (.getfield 92, 3) := by decide +kernel
theorem dX1_nextDay_23 : decode cX1_nextDay 23 = .ok (.sipush 999, 3) := by decide +kernel
theorem dX1_nextDay_26 : decode cX1_nextDay 26 = .ok (.if_icmp .lt 6, 3) := by decide +kernel
theorem dX1_nextDay_32 : decode cX1_nextDay 32 = .ok (.aload_n 0, 1) := by decide +kernel
theorem dX1_nextDay_33 : decode cX1_nextDay 33 = .ok (.iconst 3, 1) := by decide +kernel
theorem dX1_nextDay_34 : decode cX1_nextDay 34 = .ok (.invokevirtual 64, 3) := by decide +kernel
theorem dX1_nextDay_37 : decode cX1_nextDay 37 = .ok (.aload_n 0, 1) := by decide +kernel
theorem dX1_nextDay_38 : decode cX1_nextDay 38 = .ok (.getfield 36, 3) := by decide +kernel
theorem dX1_nextDay_41 : decode cX1_nextDay 41 = .ok (.aload_n 0, 1) := by decide +kernel
theorem dX1_nextDay_42 : decode cX1_nextDay 42 = .ok (.getfield 32, 3) := by decide +kernel
theorem dX1_nextDay_45 : decode cX1_nextDay 45 = .ok (.getfield 50, 3) := by decide +kernel
theorem dX1_nextDay_48 : decode cX1_nextDay 48 = .ok (.invokevirtual 95, 3) := by decide +kernel
theorem dX1_nextDay_51 : decode cX1_nextDay 51 = .ok (.ireturn, 1) := by decide +kernel
set_option maxHeartbeats 4000000 in
set_option maxRecDepth 100000 in
theorem k_X1_nextDay (l : Launch) (D : va_G) (cy : Nat → ClassId) (ld : Nat → Nat) (t : tk_T) (a0 : Nat) (ht_a0 : t a0 = (2, 0, 0)) : Met l yX1_nextDay (wl yX1_nextDay cX1_nextDay 1 (some .int)) ({ frames := 7, cells := 0, slots := 0, locals := 420 }) (tp D cy ld t [] [.ref a0] (fun H => True)) (ti D cy ld t [] (fun r H => True) (tk_w t [(2, 0, 0), (20, 1, 1), (10, 1, 1), (20, 0, 0), (10, 0, 0), (12, 0, 0), (9, 0, 0)])) 0 0 (tk_w t [(2, 0, 0), (20, 1, 1), (10, 1, 1), (20, 0, 0), (10, 0, 0), (12, 0, 0), (9, 0, 0)]) := by
  refine tk_met (y := yX1_nextDay) (cc := cX1_nextDay) (maxL := 1) (ret := (some .int)) (av := [.ref a0]) _ _ (by decide) (Nat.le_of_ble_eq_true rfl) ?_
  intro p e s m args below meth c hx hb hr hml hts htl hown hlocks hK H locs hH hG hS hB hZ ls hl
  have hown : s.vm.findClass RX1 = some m.cls := hown
  have hl : lv_has ls 1 [(0, .ref a0)] := hl
  refine lv_aload_n hx hb dX1_nextDay_0 rfl (lv_at hl 0 rfl) ?_
  refine tk_get (ci := 1) (C := RX1) (T := TX1) (N := 11) (sp := (8, 20, 3, 0)) hx hb htl inX1 hown hK hG ht_a0 (by decide) tk_no rfl 1 (by decide) (htl _ mw_114) (fun _ h9 => h9) rfl dX1_nextDay_1 (fun v9 hf1 hV9 => ?_)
  obtain ⟨rfl, ht_ld20⟩ := hV9
  have ht_ld20 : t (ld 20) = (3, 0, 0) := ht_ld20
  refine fx_top (v := .ref (ld 20)) rfl ?_
  refine tk_get (ci := 2) (C := RX2) (T := TX2) (N := 20) (sp := (9, 40, 10, 0)) hx hb htl inX2 hown hK hG ht_ld20 (by decide) tk_no rfl 19 (by decide) (htl _ mw_814) (fun _ h9 => h9) rfl dX1_nextDay_4 (fun v9 hf2 hV9 => ?_)
  obtain ⟨rfl, ht_ld40⟩ := hV9
  have ht_ld40 : t (ld 40) = (10, 0, 0) := ht_ld40
  refine fx_top (v := .ref (ld 40)) rfl ?_
  obtain ⟨v9, hf3, hV9⟩ := tk_peek (ci := 9) (C := RX9) (T := TX9) (N := 11) (sp := (0, (-1), 7, 0)) hG ht_ld40 (by decide) tk_no rfl 5 (by decide) rfl
  obtain ⟨v4, rfl, ha_v4, hb_v4⟩ := hV9
  refine tk_Vi (As := []) (rest := []) (ci := 9) ⟨hx, hb, hml, hown, hts⟩ hK hG hZ hS (k_X9_isDuel l D cy ld t 0 (ld 40) v4 ht_ld40 (by omega) (by omega)) hf3 ⟨callB_of 0 hts (wl_in mw_840) rfl rfl rfl (htl _ mw_76) (htl _ mw_875) hd_yX9_isDuel ⟨(Nat.le_of_ble_eq_true rfl), (Nat.le_of_ble_eq_true rfl)⟩, htl _ mw_838, htl _ mw_839⟩ ht_ld40 (by decide) tk_no rfl (tk_w.pick [] rfl) rfl hl.1 rfl (Nat.le_of_ble_eq_true rfl) dX1_nextDay_7 ⟨(Nat.le_of_ble_eq_true rfl), (Nat.le_of_ble_eq_true rfl)⟩ (fun v5 H locs hpo hG hS hq9 => ?_)
  have hf3 := hf3.call hq9 tk_w.nil
  obtain ⟨hpo7, hpo8, hpo9, hpo10, hpo11⟩ := hpo
  refine lv_if_ne (tgt := 29) hx hb dX1_nextDay_10 (by decide) (fun c9 => ?_) (fun c9 => ?_)
  · have hc12 : ¬ (v5.toInt = 0) := fun h9 => c9 ((fi_eq rfl (by decide)).mpr h9)
    refine lv_bipush (v := (-3)) hx hb dX1_nextDay_29 (by decide) ?_
    have hk_m3 : ((-3) : Int32).toInt = (-3) := by decide
    exact tk_iret (v := (-3)) hx hb hr rfl hlocks trivial hG hS dX1_nextDay_31
  · have hc12 : v5.toInt = 0 := (fi_eq rfl (by decide)).mp c9
    refine lv_aload_n hx hb dX1_nextDay_13 rfl (lv_at hl 0 rfl) ?_
    refine tk_get (ci := 1) (C := RX1) (T := TX1) (N := 11) (sp := (8, 20, 3, 0)) hx hb htl inX1 hown hK hG ht_a0 (by decide) tk_no rfl 1 (by decide) (htl _ mw_114) (fun _ h9 => h9) rfl dX1_nextDay_14 (fun v9 hf13 hV9 => ?_)
    obtain ⟨rfl, ht_ld20⟩ := hV9
    have ht_ld20 : t (ld 20) = (3, 0, 0) := ht_ld20
    refine fx_top (v := .ref (ld 20)) rfl ?_
    refine tk_get (ci := 2) (C := RX2) (T := TX2) (N := 20) (sp := (9, 40, 10, 0)) hx hb htl inX2 hown hK hG ht_ld20 (by decide) tk_no rfl 19 (by decide) (htl _ mw_814) (fun _ h9 => h9) rfl dX1_nextDay_17 (fun v9 hf14 hV9 => ?_)
    obtain ⟨rfl, ht_ld40⟩ := hV9
    have ht_ld40 : t (ld 40) = (10, 0, 0) := ht_ld40
    refine fx_top (v := .ref (ld 40)) rfl ?_
    refine tk_get (ci := 9) (C := RX9) (T := TX9) (N := 11) (sp := (0, (-2147483648), 2147483647, 0)) hx hb htl inX9 hown hK hG ht_ld40 (by decide) tk_no rfl 4 (by decide) (htl _ mw_991) (fun _ h9 => h9) rfl dX1_nextDay_20 (fun v9 hf15 hV9 => ?_)
    obtain ⟨v16, rfl, ha_v16, hb_v16⟩ := hV9
    refine lv_sipush (v := 999) hx hb dX1_nextDay_23 (by decide) ?_
    refine lv_icmp_lt (tgt := 32) hx hb dX1_nextDay_26 (by decide) (fun c9 => ?_) (fun c9 => ?_)
    · have hc17 : v16.toInt < 999 := (fi_lt rfl (by decide)).mp c9
      refine lv_aload_n hx hb dX1_nextDay_32 rfl (lv_at hl 0 rfl) ?_
      refine lv_iconst (v := 3) hx hb dX1_nextDay_33 (by decide) ?_
      have hk_3 : (3 : Int32).toInt = 3 := by decide
      refine tk_Vv (As := [.int 3]) (rest := []) (ci := 1) ⟨hx, hb, hml, hown, hts⟩ hK hG hZ hS (k_X1_remember l D cy ld t a0 3 ht_a0) trivial ⟨callB_of 1 hts (wl_in mw_888) rfl rfl rfl (htl _ mw_25) (htl _ mw_885) hd_yX1_remember ⟨(Nat.le_of_ble_eq_true rfl), (Nat.le_of_ble_eq_true rfl)⟩, htl _ mw_886, htl _ mw_887⟩ ht_a0 (by decide) tk_no rfl (tk_w.pick [0, 1, 2, 3] rfl) rfl hl.1 rfl (Nat.le_of_ble_eq_true rfl) dX1_nextDay_34 ⟨(Nat.le_of_ble_eq_true rfl), (Nat.le_of_ble_eq_true rfl)⟩ (fun H locs hpo hG hS hq9 => ?_)
      have hf3 := hf3.call hq9 (tk_w.no ht_ld40 (by decide))
      refine lv_aload_n hx hb dX1_nextDay_37 rfl (lv_at hl 0 rfl) ?_
      refine tk_get (ci := 1) (C := RX1) (T := TX1) (N := 11) (sp := (6, 9, 0, 0)) hx hb htl inX1 hown hK hG ht_a0 (by decide) tk_no rfl 2 (by decide) (htl _ mw_115) (fun _ h9 => h9) rfl dX1_nextDay_38 (fun v9 hf19 hV9 => ?_)
      obtain ⟨b20, rfl, ht_b20⟩ := hV9
      have ht_b20 : t b20 = (9, 0, 0) := ht_b20
      refine lv_aload_n hx hb dX1_nextDay_41 rfl (lv_at hl 0 rfl) ?_
      refine tk_get (ci := 1) (C := RX1) (T := TX1) (N := 11) (sp := (8, 20, 3, 0)) hx hb htl inX1 hown hK hG ht_a0 (by decide) tk_no rfl 1 (by decide) (htl _ mw_114) (fun _ h9 => h9) rfl dX1_nextDay_42 (fun v9 hf21 hV9 => ?_)
      obtain ⟨rfl, ht_ld20⟩ := hV9
      have ht_ld20 : t (ld 20) = (3, 0, 0) := ht_ld20
      refine fx_top (v := .ref (ld 20)) rfl ?_
      refine tk_get (ci := 2) (C := RX2) (T := TX2) (N := 20) (sp := (9, 40, 10, 0)) hx hb htl inX2 hown hK hG ht_ld20 (by decide) tk_no rfl 19 (by decide) (htl _ mw_814) (fun _ h9 => h9) rfl dX1_nextDay_45 (fun v9 hf22 hV9 => ?_)
      obtain ⟨rfl, ht_ld40⟩ := hV9
      have ht_ld40 : t (ld 40) = (10, 0, 0) := ht_ld40
      refine fx_top (v := .ref (ld 40)) rfl ?_
      refine tk_Vi (As := [.ref (ld 40)]) (rest := []) (ci := 8) ⟨hx, hb, hml, hown, hts⟩ hK hG hZ hS (k_X8_dawnOn l D cy ld t 0 b20 (ld 40) ht_b20 ht_ld40) trivial ⟨callB_of 1 hts (wl_in mw_995) rfl rfl rfl (htl _ mw_21) (htl _ mw_992) hd_yX8_dawnOn ⟨(Nat.le_of_ble_eq_true rfl), (Nat.le_of_ble_eq_true rfl)⟩, htl _ mw_993, htl _ mw_994⟩ ht_b20 (by decide) tk_no rfl (tk_w.pick [4, 3, 5, 6, 3] rfl) rfl hl.1 rfl (Nat.le_of_ble_eq_true rfl) dX1_nextDay_48 ⟨(Nat.le_of_ble_eq_true rfl), (Nat.le_of_ble_eq_true rfl)⟩ (fun v23 H locs hpo hG hS hq9 => ?_)
      exact tk_iret (v := v23) hx hb hr rfl hlocks trivial hG hS dX1_nextDay_51
    · have hc17 : ¬ (v16.toInt < 999) := fun h9 => c9 ((fi_lt rfl (by decide)).mpr h9)
      refine lv_bipush (v := (-3)) hx hb dX1_nextDay_29 (by decide) ?_
      have hk_m3 : ((-3) : Int32).toInt = (-3) := by decide
      exact tk_iret (v := (-3)) hx hb hr rfl hlocks trivial hG hS dX1_nextDay_31
theorem dX1_takeBack_0 : decode cX1_takeBack 0 = .ok (.aload_n 0, 1) := by decide +kernel
theorem dX1_takeBack_1 : decode cX1_takeBack 1 = .ok (.getfield 99, 3) := by decide +kernel
theorem dX1_takeBack_4 : decode cX1_takeBack 4 = .ok (.ifCond .ne 6, 3) := by decide +kernel
theorem dX1_takeBack_10 : decode cX1_takeBack 10 = .ok (.aload_n 0, 1) := by decide +kernel
theorem dX1_takeBack_11 : decode cX1_takeBack 11 = .ok (.dup, 1) := by decide +kernel
theorem dX1_takeBack_12 : decode cX1_takeBack 12 = .ok (.getfield 99, 3) := by decide +kernel
theorem dX1_takeBack_15 : decode cX1_takeBack 15 = .ok (.iconst 1, 1) := by decide +kernel
theorem dX1_takeBack_16 : decode cX1_takeBack 16 = .ok (.isub, 1) := by decide +kernel
theorem dX1_takeBack_17 : decode cX1_takeBack 17 = .ok (.putfield 99, 3) := by decide +kernel
theorem dX1_takeBack_20 : decode cX1_takeBack 20 = .ok (.aload_n 0, 1) := by decide +kernel
theorem dX1_takeBack_21 : decode cX1_takeBack 21 = .ok (.getfield 102, 3) := by decide +kernel
theorem dX1_takeBack_24 : decode cX1_takeBack 24 = .ok (.aload_n 0, 1) := by decide +kernel
theorem dX1_takeBack_25 : decode cX1_takeBack 25 = .ok (.getfield 99, 3) := by decide +kernel
theorem dX1_takeBack_28 : decode cX1_takeBack 28 = .ok (.iadd, 1) := by decide +kernel
theorem dX1_takeBack_29 : decode cX1_takeBack 29 = .ok (.bipush 16, 2) := by decide +kernel
theorem dX1_takeBack_31 : decode cX1_takeBack 31 = .ok (.irem, 1) := by decide +kernel
theorem dX1_takeBack_32 : decode cX1_takeBack 32 = .ok (.istore_n 1, 1) := by decide +kernel
theorem dX1_takeBack_33 : decode cX1_takeBack 33 = .ok (.aload_n 0, 1) := by decide +kernel
theorem dX1_takeBack_34 : decode cX1_takeBack 34 = .ok (.getfield 32, 3) := by decide +kernel
theorem dX1_takeBack_37 : decode cX1_takeBack 37 = .ok (.getfield 50, 3) := by decide +kernel
theorem dX1_takeBack_40 : decode cX1_takeBack 40 = .ok (.aload_n 0, 1) := by decide +kernel
theorem dX1_takeBack_41 : decode cX1_takeBack 41 = .ok (.getfield 11, 3) := by decide +kernel
theorem dX1_takeBack_44 : decode cX1_takeBack 44 = .ok (.iload_n 1, 1) := by decide +kernel
theorem dX1_takeBack_45 : decode cX1_takeBack 45 = .ok (.aaload, 1) := by decide +kernel
theorem dX1_takeBack_46 : decode cX1_takeBack 46 = .ok (.invokevirtual 105, 3) := by decide +kernel
theorem dX1_takeBack_49 : decode cX1_takeBack 49 = .ok (.aload_n 0, 1) := by decide +kernel
theorem dX1_takeBack_50 : decode cX1_takeBack 50 = .ok (.getfield 17, 3) := by decide +kernel
theorem dX1_takeBack_53 : decode cX1_takeBack 53 = .ok (.iload_n 1, 1) := by decide +kernel
theorem dX1_takeBack_54 : decode cX1_takeBack 54 = .ok (.iaload, 1) := by decide +kernel
theorem dX1_takeBack_55 : decode cX1_takeBack 55 = .ok (.ireturn, 1) := by decide +kernel
theorem dX1_takeBack_7 : decode cX1_takeBack 7 = .ok (.bipush (-3), 2) := by decide +kernel
theorem dX1_takeBack_9 : decode cX1_takeBack 9 = .ok (.ireturn, 1) := by decide +kernel
set_option maxHeartbeats 4000000 in
set_option maxRecDepth 100000 in
theorem k_X1_takeBack (l : Launch) (D : va_G) (cy : Nat → ClassId) (ld : Nat → Nat) (t : tk_T) (a0 : Nat) (ht_a0 : t a0 = (2, 0, 0)) : Met l yX1_takeBack (wl yX1_takeBack cX1_takeBack 2 (some .int)) ({ frames := 5, cells := 0, slots := 0, locals := 280 }) (tp D cy ld t [] [.ref a0] (fun H => True)) (ti D cy ld t [] (fun r H => True) (tk_w t [(2, 0, 0), (20, 0, 0), (10, 0, 0)])) 0 0 (tk_w t [(2, 0, 0), (20, 0, 0), (10, 0, 0)]) := by
  refine tk_met (y := yX1_takeBack) (cc := cX1_takeBack) (maxL := 2) (ret := (some .int)) (av := [.ref a0]) _ _ (by decide) (Nat.le_of_ble_eq_true rfl) ?_
  intro p e s m args below meth c hx hb hr hml hts htl hown hlocks hK H locs hH hG hS hB hZ ls hl
  have hown : s.vm.findClass RX1 = some m.cls := hown
  have hl : lv_has ls 2 [(0, .ref a0)] := hl
  refine lv_aload_n hx hb dX1_takeBack_0 rfl (lv_at hl 0 rfl) ?_
  refine tk_get (ci := 1) (C := RX1) (T := TX1) (N := 11) (sp := (0, 0, 16, 0)) hx hb htl inX1 hown hK hG ht_a0 (by decide) tk_no rfl 0 (by decide) (htl _ mw_267) (fun _ h9 => h9) rfl dX1_takeBack_1 (fun v9 hf1 hV9 => ?_)
  obtain ⟨v2, rfl, ha_v2, hb_v2⟩ := hV9
  refine lv_if_ne (tgt := 10) hx hb dX1_takeBack_4 (by decide) (fun c9 => ?_) (fun c9 => ?_)
  · have hc3 : ¬ (v2.toInt = 0) := fun h9 => c9 ((fi_eq rfl (by decide)).mpr h9)
    refine lv_aload_n hx hb dX1_takeBack_10 rfl (lv_at hl 0 rfl) ?_
    refine lv_dup hx hb dX1_takeBack_11 rfl ?_
    refine tk_getk (ci := 1) (C := RX1) (T := TX1) (N := 11) (sp := (0, 0, 16, 0)) hx hb htl inX1 hown hK hG ht_a0 (by decide) tk_no rfl 0 (by decide) (htl _ mw_267) (fun _ h9 => h9) rfl hf1 dX1_takeBack_12 ?_
    refine lv_iconst (v := 1) hx hb dX1_takeBack_15 (by decide) ?_
    refine lv_isub hx hb dX1_takeBack_16 ?_
    refine tk_sub rfl (by decide) (by omega) (by omega) (fun v4 h_v4 => ?_)
    refine tk_put (ci := 1) (v := .int v4) (ty := .int) (C := RX1) (T := TX1) (N := 11) (sp := (0, 0, 16, 0)) hx hb htl inX1 tyX1 tyX1_ok nmX1 hown hK hG hS ht_a0 (by decide) tk_no rfl 0 (by decide) (htl _ mw_267) (fun _ h9 => h9) rfl (tyX1_ok 0 (by decide)) rfl rfl rfl (tk_Vi (by omega) (by omega)) (fun _ h => h) (tk_w.of ht_a0 (by decide) (List.mem_of_getElem? (i := 0) rfl) (Nat.le_refl _) (Nat.le_refl _)) dX1_takeBack_17 (fun H locs hG hS hf5 hq9 hj9 => ?_)
    refine lv_aload_n hx hb dX1_takeBack_20 rfl (lv_at hl 0 rfl) ?_
    refine tk_get (ci := 1) (C := RX1) (T := TX1) (N := 11) (sp := (0, 0, 15, 0)) hx hb htl inX1 hown hK hG ht_a0 (by decide) tk_no rfl 5 (by decide) (htl _ mw_815) (fun _ h9 => h9) rfl dX1_takeBack_21 (fun v9 hf7 hV9 => ?_)
    obtain ⟨v8, rfl, ha_v8, hb_v8⟩ := hV9
    refine lv_aload_n hx hb dX1_takeBack_24 rfl (lv_at hl 0 rfl) ?_
    refine tk_getk (ci := 1) (C := RX1) (T := TX1) (N := 11) (sp := (0, 0, 16, 0)) hx hb htl inX1 hown hK hG ht_a0 (by decide) tk_no rfl 0 (by decide) (htl _ mw_267) (fun _ h9 => h9) rfl hf5 dX1_takeBack_25 ?_
    refine lv_iadd hx hb dX1_takeBack_28 ?_
    refine tk_add rfl rfl (by omega) (by omega) (fun v9 h_v9 => ?_)
    refine lv_bipush (v := 16) hx hb dX1_takeBack_29 (by decide) ?_
    refine lv_irem hx hb dX1_takeBack_31 (by decide) ?_
    refine tk_say (P := fun z => 0 ≤ z.toInt ∧ z.toInt < 16) (tk_rem rfl (by decide) (by omega) (by omega)) (fun v10 h_v10 => ?_)
    refine lv_istore_n (lv' := [(1, .int v10), (0, .ref a0)]) hx hb dX1_takeBack_32 rfl hl (by decide) rfl (fun ls hl => ?_)
    refine lv_aload_n hx hb dX1_takeBack_33 rfl (lv_at hl 1 rfl) ?_
    refine tk_get (ci := 1) (C := RX1) (T := TX1) (N := 11) (sp := (8, 20, 3, 0)) hx hb htl inX1 hown hK hG ht_a0 (by decide) tk_no rfl 1 (by decide) (htl _ mw_114) (fun _ h9 => h9) rfl dX1_takeBack_34 (fun v9 hf11 hV9 => ?_)
    obtain ⟨rfl, ht_ld20⟩ := hV9
    have ht_ld20 : t (ld 20) = (3, 0, 0) := ht_ld20
    refine fx_top (v := .ref (ld 20)) rfl ?_
    refine tk_get (ci := 2) (C := RX2) (T := TX2) (N := 20) (sp := (9, 40, 10, 0)) hx hb htl inX2 hown hK hG ht_ld20 (by decide) tk_no rfl 19 (by decide) (htl _ mw_814) (fun _ h9 => h9) rfl dX1_takeBack_37 (fun v9 hf12 hV9 => ?_)
    obtain ⟨rfl, ht_ld40⟩ := hV9
    have ht_ld40 : t (ld 40) = (10, 0, 0) := ht_ld40
    refine fx_top (v := .ref (ld 40)) rfl ?_
    refine lv_aload_n hx hb dX1_takeBack_40 rfl (lv_at hl 1 rfl) ?_
    refine tk_get (ci := 1) (C := RX1) (T := TX1) (N := 11) (sp := (6, 25, 16, 1)) hx hb htl inX1 hown hK hG ht_a0 (by decide) tk_no rfl 3 (by decide) (htl _ mw_109) (fun _ h9 => h9) rfl dX1_takeBack_41 (fun v9 hf13 hV9 => ?_)
    obtain ⟨b14, rfl, ht_b14⟩ := hV9
    have ht_b14 : t b14 = (25, 16, 1) := ht_b14
    refine lv_iload_n hx hb dX1_takeBack_44 rfl (lv_at hl 0 rfl) ?_
    refine tk_aald hx hb hK hG 3 rfl rfl ht_b14 (by decide) (fun _ h => h) tk_no rfl (by omega) (by omega) dX1_takeBack_45 (fun o15 ht_o15 => ?_)
    obtain ⟨b16, rfl, ht_b16⟩ := ht_o15
    have ht_b16 : t b16 = (10, 0, 1) := ht_b16
    refine fx_top (v := .ref b16) rfl ?_
    obtain ⟨v9, hf17, hV9⟩ := tk_peek (ci := 9) (C := RX9) (T := TX9) (N := 11) (sp := (0, (-1), 7, 0)) hG ht_b16 (by decide) tk_no rfl 5 (by decide) rfl
    obtain ⟨v18, rfl, ha_v18, hb_v18⟩ := hV9
    refine tk_Vv (As := [.ref b16]) (rest := []) (ci := 9) ⟨hx, hb, hml, hown, hts⟩ hK hG hZ hS (k_X9_copyFrom l D cy ld t 0 1 (ld 40) b16 v18 ht_ld40 ht_b16 (by omega) (by omega) (by omega)) hf17 ⟨callB_of 1 hts (wl_in mw_821) rfl rfl rfl (htl _ mw_76) (htl _ mw_818) hd_yX9_copyFrom ⟨(Nat.le_of_ble_eq_true rfl), (Nat.le_of_ble_eq_true rfl)⟩, htl _ mw_819, htl _ mw_820⟩ ht_ld40 (by decide) tk_no rfl (tk_w.pick [1, 2] rfl) rfl hl.1 rfl (Nat.le_of_ble_eq_true rfl) dX1_takeBack_46 ⟨(Nat.le_of_ble_eq_true rfl), (Nat.le_of_ble_eq_true rfl)⟩ (fun H locs hpo hG hS hq9 => ?_)
    have hf5 := hf5.call hq9 (tk_w.no ht_a0 (by decide))
    have hf17 := hf17.call hq9 (tk_w.no ht_b16 (by decide))
    have hf20 := hpo
    refine lv_aload_n hx hb dX1_takeBack_49 rfl (lv_at hl 1 rfl) ?_
    refine tk_get (ci := 1) (C := RX1) (T := TX1) (N := 11) (sp := (6, 20, 16, 0)) hx hb htl inX1 hown hK hG ht_a0 (by decide) tk_no rfl 4 (by decide) (htl _ mw_110) (fun _ h9 => h9) rfl dX1_takeBack_50 (fun v9 hf21 hV9 => ?_)
    obtain ⟨b22, rfl, ht_b22⟩ := hV9
    have ht_b22 : t b22 = (20, 16, 0) := ht_b22
    refine lv_iload_n hx hb dX1_takeBack_53 rfl (lv_at hl 0 rfl) ?_
    refine tk_iald hx hb hK hG ht_b22 (by decide) (fun _ h => h) tk_no rfl (by omega) (by omega) dX1_takeBack_54 (fun v23 _ _ => ?_)
    have hr_v23 := tk_rng v23
    exact tk_iret (v := v23) hx hb hr rfl hlocks trivial hG hS dX1_takeBack_55
  · have hc3 : v2.toInt = 0 := (fi_eq rfl (by decide)).mp c9
    refine lv_bipush (v := (-3)) hx hb dX1_takeBack_7 (by decide) ?_
    have hk_m3 : ((-3) : Int32).toInt = (-3) := by decide
    exact tk_iret (v := (-3)) hx hb hr rfl hlocks trivial hG hS dX1_takeBack_9
theorem dX1_clearUndone_0 : decode cX1_clearUndone 0 = .ok (.aload_n 0, 1) := by decide +kernel
theorem dX1_clearUndone_1 : decode cX1_clearUndone 1 = .ok (.iconst 0, 1) := by decide +kernel
theorem dX1_clearUndone_2 : decode cX1_clearUndone 2 = .ok (.putfield 99, 3) := by decide +kernel
theorem dX1_clearUndone_5 : decode cX1_clearUndone 5 = .ok (.return_, 1) := by decide +kernel
set_option maxHeartbeats 4000000 in
set_option maxRecDepth 100000 in
theorem k_X1_clearUndone (l : Launch) (D : va_G) (cy : Nat → ClassId) (ld : Nat → Nat) (t : tk_T) (a0 : Nat) (ht_a0 : t a0 = (2, 0, 0)) : Met l yX1_clearUndone (wl yX1_clearUndone cX1_clearUndone 1 none) ({ frames := 3, cells := 0, slots := 0, locals := 140 }) (tp D cy ld t [] [.ref a0] (fun H => True)) (tv D cy ld t [] (fun H => True) (tk_w t [(2, 0, 0)])) 0 0 (tk_w t [(2, 0, 0)]) := by
  refine tk_met (y := yX1_clearUndone) (cc := cX1_clearUndone) (maxL := 1) (ret := none) (av := [.ref a0]) _ _ (by decide) (Nat.le_of_ble_eq_true rfl) ?_
  intro p e s m args below meth c hx hb hr hml hts htl hown hlocks hK H locs hH hG hS hB hZ ls hl
  have hown : s.vm.findClass RX1 = some m.cls := hown
  have hl : lv_has ls 1 [(0, .ref a0)] := hl
  refine lv_aload_n hx hb dX1_clearUndone_0 rfl (lv_at hl 0 rfl) ?_
  refine lv_iconst (v := 0) hx hb dX1_clearUndone_1 (by decide) ?_
  refine tk_put (ci := 1) (v := .int 0) (ty := .int) (C := RX1) (T := TX1) (N := 11) (sp := (0, 0, 16, 0)) hx hb htl inX1 tyX1 tyX1_ok nmX1 hown hK hG hS ht_a0 (by decide) tk_no rfl 0 (by decide) (htl _ mw_267) (fun _ h9 => h9) rfl (tyX1_ok 0 (by decide)) rfl rfl rfl (tk_Vi (by decide) (by decide)) (fun _ h => h) (tk_w.of ht_a0 (by decide) (List.mem_of_getElem? (i := 0) rfl) (Nat.le_refl _) (Nat.le_refl _)) dX1_clearUndone_2 (fun H locs hG hS hf1 hq9 hj9 => ?_)
  exact tk_vret hx hb hr hlocks trivial hG hS dX1_clearUndone_5
theorem dX1_save_0 : decode cX1_save 0 = .ok (.aload_n 0, 1) := by decide +kernel
theorem dX1_save_1 : decode cX1_save 1 = .ok (.getfield 22, 3) := by decide +kernel
theorem dX1_save_4 : decode cX1_save 4 = .ok (.aload_n 0, 1) := by decide +kernel
theorem dX1_save_5 : decode cX1_save 5 = .ok (.getfield 32, 3) := by decide +kernel
theorem dX1_save_8 : decode cX1_save 8 = .ok (.getfield 50, 3) := by decide +kernel
theorem dX1_save_11 : decode cX1_save 11 = .ok (.invokevirtual 105, 3) := by decide +kernel
theorem dX1_save_14 : decode cX1_save 14 = .ok (.aload_n 0, 1) := by decide +kernel
theorem dX1_save_15 : decode cX1_save 15 = .ok (.aload_n 0, 1) := by decide +kernel
theorem dX1_save_16 : decode cX1_save 16 = .ok (.getfield 102, 3) := by decide +kernel
theorem dX1_save_19 : decode cX1_save 19 = .ok (.putfield 109, 3) := by decide +kernel
theorem dX1_save_22 : decode cX1_save 22 = .ok (.aload_n 0, 1) := by decide +kernel
theorem dX1_save_23 : decode cX1_save 23 = .ok (.aload_n 0, 1) := by decide +kernel
theorem dX1_save_24 : decode cX1_save 24 = .ok (.getfield 99, 3) := by decide +kernel
theorem dX1_save_27 : decode cX1_save 27 = .ok (.putfield 112, 3) := by decide +kernel
theorem dX1_save_30 : decode cX1_save 30 = .ok (.iconst 0, 1) := by decide +kernel
theorem dX1_save_31 : decode cX1_save 31 = .ok (.istore_n 1, 1) := by decide +kernel
theorem dX1_save_32 : decode cX1_save 32 = .ok (.iload_n 1, 1) := by decide +kernel
theorem dX1_save_33 : decode cX1_save 33 = .ok (.bipush 16, 2) := by decide +kernel
theorem dX1_save_35 : decode cX1_save 35 = .ok (.if_icmp .ge 36, 3) := by decide +kernel
theorem dX1_save_71 : decode cX1_save 71 = .ok (.return_, 1) := by decide +kernel
theorem dX1_save_38 : decode cX1_save 38 = .ok (.aload_n 0, 1) := by decide +kernel
theorem dX1_save_39 : decode cX1_save 39 = .ok (.getfield 26, 3) := by decide +kernel
theorem dX1_save_42 : decode cX1_save 42 = .ok (.iload_n 1, 1) := by decide +kernel
theorem dX1_save_43 : decode cX1_save 43 = .ok (.aaload, 1) := by decide +kernel
theorem dX1_save_44 : decode cX1_save 44 = .ok (.aload_n 0, 1) := by decide +kernel
theorem dX1_save_45 : decode cX1_save 45 = .ok (.getfield 11, 3) := by decide +kernel
theorem dX1_save_48 : decode cX1_save 48 = .ok (.iload_n 1, 1) := by decide +kernel
theorem dX1_save_49 : decode cX1_save 49 = .ok (.aaload, 1) := by decide +kernel
theorem dX1_save_50 : decode cX1_save 50 = .ok (.invokevirtual 105, 3) := by decide +kernel
theorem dX1_save_53 : decode cX1_save 53 = .ok (.aload_n 0, 1) := by decide +kernel
theorem dX1_save_54 : decode cX1_save 54 = .ok (.getfield 29, 3) := by decide +kernel
theorem dX1_save_57 : decode cX1_save 57 = .ok (.iload_n 1, 1) := by decide +kernel
theorem dX1_save_58 : decode cX1_save 58 = .ok (.aload_n 0, 1) := by decide +kernel
theorem dX1_save_59 : decode cX1_save 59 = .ok (.getfield 17, 3) := by decide +kernel
theorem dX1_save_62 : decode cX1_save 62 = .ok (.iload_n 1, 1) := by decide +kernel
theorem dX1_save_63 : decode cX1_save 63 = .ok (.iaload, 1) := by decide +kernel
theorem dX1_save_64 : decode cX1_save 64 = .ok (.iastore, 1) := by decide +kernel
theorem dX1_save_65 : decode cX1_save 65 = .ok (.iinc 1 1, 3) := by decide +kernel
theorem dX1_save_68 : decode cX1_save 68 = .ok (.goto (-36), 3) := by decide +kernel
set_option maxHeartbeats 4000000 in
set_option maxRecDepth 100000 in
theorem k_X1_save (l : Launch) (D : va_G) (cy : Nat → ClassId) (ld : Nat → Nat) (t : tk_T) (a0 : Nat) (ht_a0 : t a0 = (2, 0, 0)) : Met l yX1_save (wl yX1_save cX1_save 2 none) ({ frames := 5, cells := 0, slots := 0, locals := 280 }) (tp D cy ld t [] [.ref a0] (fun H => True)) (tv D cy ld t [] (fun H => True) (tk_w t [(20, 2, 2), (10, 2, 2), (2, 0, 0), (20, 3, 3), (10, 3, 3), (20, 0, 0)])) 0 0 (tk_w t [(20, 2, 2), (10, 2, 2), (2, 0, 0), (20, 3, 3), (10, 3, 3), (20, 0, 0)]) := by
  refine tk_met (y := yX1_save) (cc := cX1_save) (maxL := 2) (ret := none) (av := [.ref a0]) _ _ (by decide) (Nat.le_of_ble_eq_true rfl) ?_
  intro p e s m args below meth c hx hb hr hml hts htl hown hlocks hK H locs hH hG hS hB hZ ls hl
  have hown : s.vm.findClass RX1 = some m.cls := hown
  have hl : lv_has ls 2 [(0, .ref a0)] := hl
  refine lv_aload_n hx hb dX1_save_0 rfl (lv_at hl 0 rfl) ?_
  refine tk_get (ci := 1) (C := RX1) (T := TX1) (N := 11) (sp := (6, 10, 0, 2)) hx hb htl inX1 hown hK hG ht_a0 (by decide) tk_no rfl 6 (by decide) (htl _ mw_111) (fun _ h9 => h9) rfl dX1_save_1 (fun v9 hf1 hV9 => ?_)
  obtain ⟨b2, rfl, ht_b2⟩ := hV9
  have ht_b2 : t b2 = (10, 0, 2) := ht_b2
  refine lv_aload_n hx hb dX1_save_4 rfl (lv_at hl 0 rfl) ?_
  refine tk_get (ci := 1) (C := RX1) (T := TX1) (N := 11) (sp := (8, 20, 3, 0)) hx hb htl inX1 hown hK hG ht_a0 (by decide) tk_no rfl 1 (by decide) (htl _ mw_114) (fun _ h9 => h9) rfl dX1_save_5 (fun v9 hf3 hV9 => ?_)
  obtain ⟨rfl, ht_ld20⟩ := hV9
  have ht_ld20 : t (ld 20) = (3, 0, 0) := ht_ld20
  refine fx_top (v := .ref (ld 20)) rfl ?_
  refine tk_get (ci := 2) (C := RX2) (T := TX2) (N := 20) (sp := (9, 40, 10, 0)) hx hb htl inX2 hown hK hG ht_ld20 (by decide) tk_no rfl 19 (by decide) (htl _ mw_814) (fun _ h9 => h9) rfl dX1_save_8 (fun v9 hf4 hV9 => ?_)
  obtain ⟨rfl, ht_ld40⟩ := hV9
  have ht_ld40 : t (ld 40) = (10, 0, 0) := ht_ld40
  refine fx_top (v := .ref (ld 40)) rfl ?_
  obtain ⟨v9, hf5, hV9⟩ := tk_peek (ci := 9) (C := RX9) (T := TX9) (N := 11) (sp := (0, (-1), 7, 0)) hG ht_ld40 (by decide) tk_no rfl 5 (by decide) rfl
  obtain ⟨v6, rfl, ha_v6, hb_v6⟩ := hV9
  refine tk_Vv (As := [.ref (ld 40)]) (rest := []) (ci := 9) ⟨hx, hb, hml, hown, hts⟩ hK hG hZ hS (k_X9_copyFrom l D cy ld t 2 0 b2 (ld 40) v6 ht_b2 ht_ld40 (by omega) (by omega) (by omega)) hf5 ⟨callB_of 1 hts (wl_in mw_821) rfl rfl rfl (htl _ mw_76) (htl _ mw_818) hd_yX9_copyFrom ⟨(Nat.le_of_ble_eq_true rfl), (Nat.le_of_ble_eq_true rfl)⟩, htl _ mw_819, htl _ mw_820⟩ ht_b2 (by decide) tk_no rfl (tk_w.pick [0, 1] rfl) rfl hl.1 rfl (Nat.le_of_ble_eq_true rfl) dX1_save_11 ⟨(Nat.le_of_ble_eq_true rfl), (Nat.le_of_ble_eq_true rfl)⟩ (fun H locs hpo hG hS hq9 => ?_)
  have hf5 := hf5.call hq9 (tk_w.no ht_ld40 (by decide))
  have hf8 := hpo
  refine lv_aload_n hx hb dX1_save_14 rfl (lv_at hl 0 rfl) ?_
  refine lv_aload_n hx hb dX1_save_15 rfl (lv_at hl 0 rfl) ?_
  refine tk_get (ci := 1) (C := RX1) (T := TX1) (N := 11) (sp := (0, 0, 15, 0)) hx hb htl inX1 hown hK hG ht_a0 (by decide) tk_no rfl 5 (by decide) (htl _ mw_815) (fun _ h9 => h9) rfl dX1_save_16 (fun v9 hf9 hV9 => ?_)
  obtain ⟨v10, rfl, ha_v10, hb_v10⟩ := hV9
  refine tk_put (ci := 1) (v := .int v10) (ty := .int) (C := RX1) (T := TX1) (N := 11) (sp := (0, 0, 15, 0)) hx hb htl inX1 tyX1 tyX1_ok nmX1 hown hK hG hS ht_a0 (by decide) tk_no rfl 9 (by decide) (htl _ mw_816) (fun _ h9 => h9) rfl (tyX1_ok 9 (by decide)) rfl rfl rfl (tk_Vi (by omega) (by omega)) (fun _ h => h) (tk_w.of ht_a0 (by decide) (List.mem_of_getElem? (i := 2) rfl) (Nat.le_refl _) (Nat.le_refl _)) dX1_save_19 (fun H locs hG hS hf11 hq9 hj9 => ?_)
  have hf5 := hf5.kept (hq9 _ (tk_ne ht_ld40 ht_a0 (Or.inl (by decide))))
  have hf8 := hf8.kept (hq9 _ (tk_ne ht_b2 ht_a0 (Or.inl (by decide))))
  refine lv_aload_n hx hb dX1_save_22 rfl (lv_at hl 0 rfl) ?_
  refine lv_aload_n hx hb dX1_save_23 rfl (lv_at hl 0 rfl) ?_
  refine tk_get (ci := 1) (C := RX1) (T := TX1) (N := 11) (sp := (0, 0, 16, 0)) hx hb htl inX1 hown hK hG ht_a0 (by decide) tk_no rfl 0 (by decide) (htl _ mw_267) (fun _ h9 => h9) rfl dX1_save_24 (fun v9 hf13 hV9 => ?_)
  obtain ⟨v14, rfl, ha_v14, hb_v14⟩ := hV9
  refine tk_put (ci := 1) (v := .int v14) (ty := .int) (C := RX1) (T := TX1) (N := 11) (sp := (0, 0, 16, 0)) hx hb htl inX1 tyX1 tyX1_ok nmX1 hown hK hG hS ht_a0 (by decide) tk_no rfl 10 (by decide) (htl _ mw_817) (fun _ h9 => h9) rfl (tyX1_ok 10 (by decide)) rfl rfl rfl (tk_Vi (by omega) (by omega)) (fun _ h => h) (tk_w.of ht_a0 (by decide) (List.mem_of_getElem? (i := 2) rfl) (Nat.le_refl _) (Nat.le_refl _)) dX1_save_27 (fun H locs hG hS hf15 hq9 hj9 => ?_)
  have hf5 := hf5.kept (hq9 _ (tk_ne ht_ld40 ht_a0 (Or.inl (by decide))))
  have hf8 := hf8.kept (hq9 _ (tk_ne ht_b2 ht_a0 (Or.inl (by decide))))
  have hf13 := hj9 0 _ (by decide) (by decide) hf13
  refine lv_iconst (v := 0) hx hb dX1_save_30 (by decide) ?_
  refine lv_istore_n (lv' := [(1, .int 0), (0, .ref a0)]) hx hb dX1_save_31 rfl hl (by decide) rfl (fun ls hl => ?_)
  have hl272 : ∀ (N : Nat) (v17 : Int32) (H : Heap) (locs : List Loc), v17.toInt ≤ 16 → 0 ≤ v17.toInt → (-1) * v17.toInt + 16 < (N : Int) → tk_G D cy ld t [] H → va_S (tk_w t [(20, 2, 2), (10, 2, 2), (2, 0, 0), (20, 3, 3), (10, 3, 3), (20, 0, 0)]) s.heap H locs → tk_f D H (ld 40) 9 5 (.int v6) → tk_f D H b2 9 5 (.int v6) → tk_f D H a0 1 0 (.int v14) → ∀ ls : Array Slot, lv_has ls 2 [(1, .int v17), (0, .ref a0)] → W p l e ({ frames := 5, cells := 0, slots := 0, locals := 280 }) s m args below meth c H locs 0 0 (MQ below (tv D cy ld t [] (fun H => True) (tk_w t [(20, 2, 2), (10, 2, 2), (2, 0, 0), (20, 3, 3), (10, 3, 3), (20, 0, 0)])) args s 0 0 (tk_w t [(20, 2, 2), (10, 2, 2), (2, 0, 0), (20, 3, 3), (10, 3, 3), (20, 0, 0)])) (F0 m 32 ls []) := by
    intro N
    induction N with
    | zero => intro v17 H locs hq0_l272 hq1_l272 hm_l272 hG hS hf5 hf8 hf13 ls hl; exfalso; omega
    | succ N ih =>
      intro v17 H locs hq0_l272 hq1_l272 hm_l272 hG hS hf5 hf8 hf13 ls hl
      refine lv_iload_n hx hb dX1_save_32 rfl (lv_at hl 0 rfl) ?_
      refine lv_bipush (v := 16) hx hb dX1_save_33 (by decide) ?_
      refine lv_icmp_ge (tgt := 71) hx hb dX1_save_35 (by decide) (fun c9 => ?_) (fun c9 => ?_)
      · have hc273 : 16 ≤ v17.toInt := (fi_le (by decide) rfl).mp c9
        exact tk_vret hx hb hr hlocks trivial hG hS dX1_save_71
      · have hc273 : ¬ (16 ≤ v17.toInt) := fun h9 => c9 ((fi_le (by decide) rfl).mpr h9)
        refine lv_aload_n hx hb dX1_save_38 rfl (lv_at hl 1 rfl) ?_
        refine tk_get (ci := 1) (C := RX1) (T := TX1) (N := 11) (sp := (6, 25, 16, 3)) hx hb htl inX1 hown hK hG ht_a0 (by decide) tk_no rfl 7 (by decide) (htl _ mw_112) (fun _ h9 => h9) rfl dX1_save_39 (fun v9 hf293 hV9 => ?_)
        obtain ⟨b294, rfl, ht_b294⟩ := hV9
        have ht_b294 : t b294 = (25, 16, 3) := ht_b294
        refine lv_iload_n hx hb dX1_save_42 rfl (lv_at hl 0 rfl) ?_
        refine tk_aald hx hb hK hG 3 rfl rfl ht_b294 (by decide) (fun _ h => h) tk_no rfl (by omega) (by omega) dX1_save_43 (fun o295 ht_o295 => ?_)
        obtain ⟨b296, rfl, ht_b296⟩ := ht_o295
        have ht_b296 : t b296 = (10, 0, 3) := ht_b296
        refine fx_top (v := .ref b296) rfl ?_
        refine lv_aload_n hx hb dX1_save_44 rfl (lv_at hl 1 rfl) ?_
        refine tk_get (ci := 1) (C := RX1) (T := TX1) (N := 11) (sp := (6, 25, 16, 1)) hx hb htl inX1 hown hK hG ht_a0 (by decide) tk_no rfl 3 (by decide) (htl _ mw_109) (fun _ h9 => h9) rfl dX1_save_45 (fun v9 hf297 hV9 => ?_)
        obtain ⟨b298, rfl, ht_b298⟩ := hV9
        have ht_b298 : t b298 = (25, 16, 1) := ht_b298
        refine lv_iload_n hx hb dX1_save_48 rfl (lv_at hl 0 rfl) ?_
        refine tk_aald hx hb hK hG 3 rfl rfl ht_b298 (by decide) (fun _ h => h) tk_no rfl (by omega) (by omega) dX1_save_49 (fun o299 ht_o299 => ?_)
        obtain ⟨b300, rfl, ht_b300⟩ := ht_o299
        have ht_b300 : t b300 = (10, 0, 1) := ht_b300
        refine fx_top (v := .ref b300) rfl ?_
        obtain ⟨v9, hf301, hV9⟩ := tk_peek (ci := 9) (C := RX9) (T := TX9) (N := 11) (sp := (0, (-1), 7, 0)) hG ht_b300 (by decide) tk_no rfl 5 (by decide) rfl
        obtain ⟨v302, rfl, ha_v302, hb_v302⟩ := hV9
        refine tk_Vv (As := [.ref b300]) (rest := []) (ci := 9) ⟨hx, hb, hml, hown, hts⟩ hK hG hZ hS (k_X9_copyFrom l D cy ld t 3 1 b296 b300 v302 ht_b296 ht_b300 (by omega) (by omega) (by omega)) hf301 ⟨callB_of 1 hts (wl_in mw_821) rfl rfl rfl (htl _ mw_76) (htl _ mw_818) hd_yX9_copyFrom ⟨(Nat.le_of_ble_eq_true rfl), (Nat.le_of_ble_eq_true rfl)⟩, htl _ mw_819, htl _ mw_820⟩ ht_b296 (by decide) tk_no rfl (tk_w.pick [3, 4] rfl) rfl hl.1 rfl (Nat.le_of_ble_eq_true rfl) dX1_save_50 ⟨(Nat.le_of_ble_eq_true rfl), (Nat.le_of_ble_eq_true rfl)⟩ (fun H locs hpo hG hS hq9 => ?_)
        have hf5 := hf5.call hq9 (tk_w.no ht_ld40 (by decide))
        have hf8 := hf8.call hq9 (tk_w.no ht_b2 (by decide))
        have hf13 := hf13.call hq9 (tk_w.no ht_a0 (by decide))
        have hf301 := hf301.call hq9 (tk_w.no ht_b300 (by decide))
        have hf304 := hpo
        refine lv_aload_n hx hb dX1_save_53 rfl (lv_at hl 1 rfl) ?_
        refine tk_get (ci := 1) (C := RX1) (T := TX1) (N := 11) (sp := (6, 20, 16, 0)) hx hb htl inX1 hown hK hG ht_a0 (by decide) tk_no rfl 8 (by decide) (htl _ mw_113) (fun _ h9 => h9) rfl dX1_save_54 (fun v9 hf305 hV9 => ?_)
        obtain ⟨b306, rfl, ht_b306⟩ := hV9
        have ht_b306 : t b306 = (20, 16, 0) := ht_b306
        refine lv_iload_n hx hb dX1_save_57 rfl (lv_at hl 0 rfl) ?_
        refine lv_aload_n hx hb dX1_save_58 rfl (lv_at hl 1 rfl) ?_
        refine tk_get (ci := 1) (C := RX1) (T := TX1) (N := 11) (sp := (6, 20, 16, 0)) hx hb htl inX1 hown hK hG ht_a0 (by decide) tk_no rfl 4 (by decide) (htl _ mw_110) (fun _ h9 => h9) rfl dX1_save_59 (fun v9 hf307 hV9 => ?_)
        obtain ⟨b308, rfl, ht_b308⟩ := hV9
        have ht_b308 : t b308 = (20, 16, 0) := ht_b308
        refine lv_iload_n hx hb dX1_save_62 rfl (lv_at hl 0 rfl) ?_
        refine tk_iald hx hb hK hG ht_b308 (by decide) (fun _ h => h) tk_no rfl (by omega) (by omega) dX1_save_63 (fun v309 _ _ => ?_)
        have hr_v309 := tk_rng v309
        refine tk_iast hx hb hK hG hS ht_b306 (by decide) (fun _ => Iff.rfl) tk_no rfl (by omega) (by omega) trivial (tk_w.of ht_b306 (by decide) (List.mem_of_getElem? (i := 5) rfl) (Nat.le_refl _) (Nat.le_refl _)) dX1_save_64 (fun H locs hG hS hq9 => ?_)
        have hf5 := hf5.kept (hq9 _ (tk_ne ht_ld40 ht_b306 (Or.inl (by decide))))
        have hf8 := hf8.kept (hq9 _ (tk_ne ht_b2 ht_b306 (Or.inl (by decide))))
        have hf13 := hf13.kept (hq9 _ (tk_ne ht_a0 ht_b306 (Or.inl (by decide))))
        have hf301 := hf301.kept (hq9 _ (tk_ne ht_b300 ht_b306 (Or.inl (by decide))))
        have hf304 := hf304.kept (hq9 _ (tk_ne ht_b296 ht_b306 (Or.inl (by decide))))
        obtain ⟨v311, h_v311, e_v311⟩ := tk_inc v17 1 (by decide) (by omega) (by omega)
        refine lv_iinc (v := v311) (lv' := [(1, .int v311), (0, .ref a0)]) hx hb dX1_save_65 hl (k := 0) rfl e_v311 (by decide) rfl (fun ls hl => ?_)
        refine lv_goto (tgt := 32) hx hb dX1_save_68 (by decide) ?_
        exact ih v311 _ _ (by omega) (by omega) (by omega) hG hS hf5 hf8 hf13 _ (lv_sub hl [0, 1] rfl)
  have hk_0 : (0 : Int32).toInt = 0 := by decide
  exact hl272 17 0 _ _ (by omega) (by omega) (by omega) hG hS hf5 hf8 hf13 _ (lv_sub hl [0, 1] rfl)
theorem dX1_restore_0 : decode cX1_restore 0 = .ok (.aload_n 0, 1) := by decide +kernel
theorem dX1_restore_1 : decode cX1_restore 1 = .ok (.getfield 32, 3) := by decide +kernel
theorem dX1_restore_4 : decode cX1_restore 4 = .ok (.getfield 50, 3) := by decide +kernel
theorem dX1_restore_7 : decode cX1_restore 7 = .ok (.aload_n 0, 1) := by decide +kernel
theorem dX1_restore_8 : decode cX1_restore 8 = .ok (.getfield 22, 3) := by decide +kernel
theorem dX1_restore_11 : decode cX1_restore 11 = .ok (.invokevirtual 105, 3) := by decide +kernel
theorem dX1_restore_14 : decode cX1_restore 14 = .ok (.aload_n 0, 1) := by decide +kernel
theorem dX1_restore_15 : decode cX1_restore 15 = .ok (.aload_n 0, 1) := by decide +kernel
theorem dX1_restore_16 : decode cX1_restore 16 = .ok (.getfield 109, 3) := by decide +kernel
theorem dX1_restore_19 : decode cX1_restore 19 = .ok (.putfield 102, 3) := by decide +kernel
theorem dX1_restore_22 : decode cX1_restore 22 = .ok (.aload_n 0, 1) := by decide +kernel
theorem dX1_restore_23 : decode cX1_restore 23 = .ok (.aload_n 0, 1) := by decide +kernel
theorem dX1_restore_24 : decode cX1_restore 24 = .ok (.getfield 112, 3) := by decide +kernel
theorem dX1_restore_27 : decode cX1_restore 27 = .ok (.putfield 99, 3) := by decide +kernel
theorem dX1_restore_30 : decode cX1_restore 30 = .ok (.iconst 0, 1) := by decide +kernel
theorem dX1_restore_31 : decode cX1_restore 31 = .ok (.istore_n 1, 1) := by decide +kernel
theorem dX1_restore_32 : decode cX1_restore 32 = .ok (.iload_n 1, 1) := by decide +kernel
theorem dX1_restore_33 : decode cX1_restore 33 = .ok (.bipush 16, 2) := by decide +kernel
theorem dX1_restore_35 : decode cX1_restore 35 = .ok (.if_icmp .ge 36, 3) := by decide +kernel
theorem dX1_restore_71 : decode cX1_restore 71 = .ok (.return_, 1) := by decide +kernel
theorem dX1_restore_38 : decode cX1_restore 38 = .ok (.aload_n 0, 1) := by decide +kernel
theorem dX1_restore_39 : decode cX1_restore 39 = .ok (.getfield 11, 3) := by decide +kernel
theorem dX1_restore_42 : decode cX1_restore 42 = .ok (.iload_n 1, 1) := by decide +kernel
theorem dX1_restore_43 : decode cX1_restore 43 = .ok (.aaload, 1) := by decide +kernel
theorem dX1_restore_44 : decode cX1_restore 44 = .ok (.aload_n 0, 1) := by decide +kernel
theorem dX1_restore_45 : decode cX1_restore 45 = .ok (.getfield 26, 3) := by decide +kernel
theorem dX1_restore_48 : decode cX1_restore 48 = .ok (.iload_n 1, 1) := by decide +kernel
theorem dX1_restore_49 : decode cX1_restore 49 = .ok (.aaload, 1) := by decide +kernel
theorem dX1_restore_50 : decode cX1_restore 50 = .ok (.invokevirtual 105, 3) := by decide +kernel
theorem dX1_restore_53 : decode cX1_restore 53 = .ok (.aload_n 0, 1) := by decide +kernel
theorem dX1_restore_54 : decode cX1_restore 54 = .ok (.getfield 17, 3) := by decide +kernel
theorem dX1_restore_57 : decode cX1_restore 57 = .ok (.iload_n 1, 1) := by decide +kernel
theorem dX1_restore_58 : decode cX1_restore 58 = .ok (.aload_n 0, 1) := by decide +kernel
theorem dX1_restore_59 : decode cX1_restore 59 = .ok (.getfield 29, 3) := by decide +kernel
theorem dX1_restore_62 : decode cX1_restore 62 = .ok (.iload_n 1, 1) := by decide +kernel
theorem dX1_restore_63 : decode cX1_restore 63 = .ok (.iaload, 1) := by decide +kernel
theorem dX1_restore_64 : decode cX1_restore 64 = .ok (.iastore, 1) := by decide +kernel
theorem dX1_restore_65 : decode cX1_restore 65 = .ok (.iinc 1 1, 3) := by decide +kernel
theorem dX1_restore_68 : decode cX1_restore 68 = .ok (.goto (-36), 3) := by decide +kernel
set_option maxHeartbeats 4000000 in
set_option maxRecDepth 100000 in
theorem k_X1_restore (l : Launch) (D : va_G) (cy : Nat → ClassId) (ld : Nat → Nat) (t : tk_T) (a0 : Nat) (ht_a0 : t a0 = (2, 0, 0)) : Met l yX1_restore (wl yX1_restore cX1_restore 2 none) ({ frames := 5, cells := 0, slots := 0, locals := 280 }) (tp D cy ld t [] [.ref a0] (fun H => True)) (tv D cy ld t [] (fun H => True) (tk_w t [(20, 0, 0), (10, 0, 0), (2, 0, 0), (20, 1, 1), (10, 1, 1)])) 0 0 (tk_w t [(20, 0, 0), (10, 0, 0), (2, 0, 0), (20, 1, 1), (10, 1, 1)]) := by
  refine tk_met (y := yX1_restore) (cc := cX1_restore) (maxL := 2) (ret := none) (av := [.ref a0]) _ _ (by decide) (Nat.le_of_ble_eq_true rfl) ?_
  intro p e s m args below meth c hx hb hr hml hts htl hown hlocks hK H locs hH hG hS hB hZ ls hl
  have hown : s.vm.findClass RX1 = some m.cls := hown
  have hl : lv_has ls 2 [(0, .ref a0)] := hl
  refine lv_aload_n hx hb dX1_restore_0 rfl (lv_at hl 0 rfl) ?_
  refine tk_get (ci := 1) (C := RX1) (T := TX1) (N := 11) (sp := (8, 20, 3, 0)) hx hb htl inX1 hown hK hG ht_a0 (by decide) tk_no rfl 1 (by decide) (htl _ mw_114) (fun _ h9 => h9) rfl dX1_restore_1 (fun v9 hf1 hV9 => ?_)
  obtain ⟨rfl, ht_ld20⟩ := hV9
  have ht_ld20 : t (ld 20) = (3, 0, 0) := ht_ld20
  refine fx_top (v := .ref (ld 20)) rfl ?_
  refine tk_get (ci := 2) (C := RX2) (T := TX2) (N := 20) (sp := (9, 40, 10, 0)) hx hb htl inX2 hown hK hG ht_ld20 (by decide) tk_no rfl 19 (by decide) (htl _ mw_814) (fun _ h9 => h9) rfl dX1_restore_4 (fun v9 hf2 hV9 => ?_)
  obtain ⟨rfl, ht_ld40⟩ := hV9
  have ht_ld40 : t (ld 40) = (10, 0, 0) := ht_ld40
  refine fx_top (v := .ref (ld 40)) rfl ?_
  refine lv_aload_n hx hb dX1_restore_7 rfl (lv_at hl 0 rfl) ?_
  refine tk_get (ci := 1) (C := RX1) (T := TX1) (N := 11) (sp := (6, 10, 0, 2)) hx hb htl inX1 hown hK hG ht_a0 (by decide) tk_no rfl 6 (by decide) (htl _ mw_111) (fun _ h9 => h9) rfl dX1_restore_8 (fun v9 hf3 hV9 => ?_)
  obtain ⟨b4, rfl, ht_b4⟩ := hV9
  have ht_b4 : t b4 = (10, 0, 2) := ht_b4
  obtain ⟨v9, hf5, hV9⟩ := tk_peek (ci := 9) (C := RX9) (T := TX9) (N := 11) (sp := (0, (-1), 7, 0)) hG ht_b4 (by decide) tk_no rfl 5 (by decide) rfl
  obtain ⟨v6, rfl, ha_v6, hb_v6⟩ := hV9
  refine tk_Vv (As := [.ref b4]) (rest := []) (ci := 9) ⟨hx, hb, hml, hown, hts⟩ hK hG hZ hS (k_X9_copyFrom l D cy ld t 0 2 (ld 40) b4 v6 ht_ld40 ht_b4 (by omega) (by omega) (by omega)) hf5 ⟨callB_of 1 hts (wl_in mw_821) rfl rfl rfl (htl _ mw_76) (htl _ mw_818) hd_yX9_copyFrom ⟨(Nat.le_of_ble_eq_true rfl), (Nat.le_of_ble_eq_true rfl)⟩, htl _ mw_819, htl _ mw_820⟩ ht_ld40 (by decide) tk_no rfl (tk_w.pick [0, 1] rfl) rfl hl.1 rfl (Nat.le_of_ble_eq_true rfl) dX1_restore_11 ⟨(Nat.le_of_ble_eq_true rfl), (Nat.le_of_ble_eq_true rfl)⟩ (fun H locs hpo hG hS hq9 => ?_)
  have hf5 := hf5.call hq9 (tk_w.no ht_b4 (by decide))
  have hf8 := hpo
  refine lv_aload_n hx hb dX1_restore_14 rfl (lv_at hl 0 rfl) ?_
  refine lv_aload_n hx hb dX1_restore_15 rfl (lv_at hl 0 rfl) ?_
  refine tk_get (ci := 1) (C := RX1) (T := TX1) (N := 11) (sp := (0, 0, 15, 0)) hx hb htl inX1 hown hK hG ht_a0 (by decide) tk_no rfl 9 (by decide) (htl _ mw_816) (fun _ h9 => h9) rfl dX1_restore_16 (fun v9 hf9 hV9 => ?_)
  obtain ⟨v10, rfl, ha_v10, hb_v10⟩ := hV9
  refine tk_put (ci := 1) (v := .int v10) (ty := .int) (C := RX1) (T := TX1) (N := 11) (sp := (0, 0, 15, 0)) hx hb htl inX1 tyX1 tyX1_ok nmX1 hown hK hG hS ht_a0 (by decide) tk_no rfl 5 (by decide) (htl _ mw_815) (fun _ h9 => h9) rfl (tyX1_ok 5 (by decide)) rfl rfl rfl (tk_Vi (by omega) (by omega)) (fun _ h => h) (tk_w.of ht_a0 (by decide) (List.mem_of_getElem? (i := 2) rfl) (Nat.le_refl _) (Nat.le_refl _)) dX1_restore_19 (fun H locs hG hS hf11 hq9 hj9 => ?_)
  have hf5 := hf5.kept (hq9 _ (tk_ne ht_b4 ht_a0 (Or.inl (by decide))))
  have hf8 := hf8.kept (hq9 _ (tk_ne ht_ld40 ht_a0 (Or.inl (by decide))))
  refine lv_aload_n hx hb dX1_restore_22 rfl (lv_at hl 0 rfl) ?_
  refine lv_aload_n hx hb dX1_restore_23 rfl (lv_at hl 0 rfl) ?_
  refine tk_get (ci := 1) (C := RX1) (T := TX1) (N := 11) (sp := (0, 0, 16, 0)) hx hb htl inX1 hown hK hG ht_a0 (by decide) tk_no rfl 10 (by decide) (htl _ mw_817) (fun _ h9 => h9) rfl dX1_restore_24 (fun v9 hf13 hV9 => ?_)
  obtain ⟨v14, rfl, ha_v14, hb_v14⟩ := hV9
  refine tk_put (ci := 1) (v := .int v14) (ty := .int) (C := RX1) (T := TX1) (N := 11) (sp := (0, 0, 16, 0)) hx hb htl inX1 tyX1 tyX1_ok nmX1 hown hK hG hS ht_a0 (by decide) tk_no rfl 0 (by decide) (htl _ mw_267) (fun _ h9 => h9) rfl (tyX1_ok 0 (by decide)) rfl rfl rfl (tk_Vi (by omega) (by omega)) (fun _ h => h) (tk_w.of ht_a0 (by decide) (List.mem_of_getElem? (i := 2) rfl) (Nat.le_refl _) (Nat.le_refl _)) dX1_restore_27 (fun H locs hG hS hf15 hq9 hj9 => ?_)
  have hf5 := hf5.kept (hq9 _ (tk_ne ht_b4 ht_a0 (Or.inl (by decide))))
  have hf8 := hf8.kept (hq9 _ (tk_ne ht_ld40 ht_a0 (Or.inl (by decide))))
  refine lv_iconst (v := 0) hx hb dX1_restore_30 (by decide) ?_
  refine lv_istore_n (lv' := [(1, .int 0), (0, .ref a0)]) hx hb dX1_restore_31 rfl hl (by decide) rfl (fun ls hl => ?_)
  have hl272 : ∀ (N : Nat) (v17 : Int32) (H : Heap) (locs : List Loc), v17.toInt ≤ 16 → 0 ≤ v17.toInt → (-1) * v17.toInt + 16 < (N : Int) → tk_G D cy ld t [] H → va_S (tk_w t [(20, 0, 0), (10, 0, 0), (2, 0, 0), (20, 1, 1), (10, 1, 1)]) s.heap H locs → tk_f D H b4 9 5 (.int v6) → tk_f D H (ld 40) 9 5 (.int v6) → tk_f D H a0 1 0 (.int v14) → ∀ ls : Array Slot, lv_has ls 2 [(1, .int v17), (0, .ref a0)] → W p l e ({ frames := 5, cells := 0, slots := 0, locals := 280 }) s m args below meth c H locs 0 0 (MQ below (tv D cy ld t [] (fun H => True) (tk_w t [(20, 0, 0), (10, 0, 0), (2, 0, 0), (20, 1, 1), (10, 1, 1)])) args s 0 0 (tk_w t [(20, 0, 0), (10, 0, 0), (2, 0, 0), (20, 1, 1), (10, 1, 1)])) (F0 m 32 ls []) := by
    intro N
    induction N with
    | zero => intro v17 H locs hq0_l272 hq1_l272 hm_l272 hG hS hf5 hf8 hf15 ls hl; exfalso; omega
    | succ N ih =>
      intro v17 H locs hq0_l272 hq1_l272 hm_l272 hG hS hf5 hf8 hf15 ls hl
      refine lv_iload_n hx hb dX1_restore_32 rfl (lv_at hl 0 rfl) ?_
      refine lv_bipush (v := 16) hx hb dX1_restore_33 (by decide) ?_
      refine lv_icmp_ge (tgt := 71) hx hb dX1_restore_35 (by decide) (fun c9 => ?_) (fun c9 => ?_)
      · have hc273 : 16 ≤ v17.toInt := (fi_le (by decide) rfl).mp c9
        exact tk_vret hx hb hr hlocks trivial hG hS dX1_restore_71
      · have hc273 : ¬ (16 ≤ v17.toInt) := fun h9 => c9 ((fi_le (by decide) rfl).mpr h9)
        refine lv_aload_n hx hb dX1_restore_38 rfl (lv_at hl 1 rfl) ?_
        refine tk_get (ci := 1) (C := RX1) (T := TX1) (N := 11) (sp := (6, 25, 16, 1)) hx hb htl inX1 hown hK hG ht_a0 (by decide) tk_no rfl 3 (by decide) (htl _ mw_109) (fun _ h9 => h9) rfl dX1_restore_39 (fun v9 hf293 hV9 => ?_)
        obtain ⟨b294, rfl, ht_b294⟩ := hV9
        have ht_b294 : t b294 = (25, 16, 1) := ht_b294
        refine lv_iload_n hx hb dX1_restore_42 rfl (lv_at hl 0 rfl) ?_
        refine tk_aald hx hb hK hG 3 rfl rfl ht_b294 (by decide) (fun _ h => h) tk_no rfl (by omega) (by omega) dX1_restore_43 (fun o295 ht_o295 => ?_)
        obtain ⟨b296, rfl, ht_b296⟩ := ht_o295
        have ht_b296 : t b296 = (10, 0, 1) := ht_b296
        refine fx_top (v := .ref b296) rfl ?_
        refine lv_aload_n hx hb dX1_restore_44 rfl (lv_at hl 1 rfl) ?_
        refine tk_get (ci := 1) (C := RX1) (T := TX1) (N := 11) (sp := (6, 25, 16, 3)) hx hb htl inX1 hown hK hG ht_a0 (by decide) tk_no rfl 7 (by decide) (htl _ mw_112) (fun _ h9 => h9) rfl dX1_restore_45 (fun v9 hf297 hV9 => ?_)
        obtain ⟨b298, rfl, ht_b298⟩ := hV9
        have ht_b298 : t b298 = (25, 16, 3) := ht_b298
        refine lv_iload_n hx hb dX1_restore_48 rfl (lv_at hl 0 rfl) ?_
        refine tk_aald hx hb hK hG 3 rfl rfl ht_b298 (by decide) (fun _ h => h) tk_no rfl (by omega) (by omega) dX1_restore_49 (fun o299 ht_o299 => ?_)
        obtain ⟨b300, rfl, ht_b300⟩ := ht_o299
        have ht_b300 : t b300 = (10, 0, 3) := ht_b300
        refine fx_top (v := .ref b300) rfl ?_
        obtain ⟨v9, hf301, hV9⟩ := tk_peek (ci := 9) (C := RX9) (T := TX9) (N := 11) (sp := (0, (-1), 7, 0)) hG ht_b300 (by decide) tk_no rfl 5 (by decide) rfl
        obtain ⟨v302, rfl, ha_v302, hb_v302⟩ := hV9
        refine tk_Vv (As := [.ref b300]) (rest := []) (ci := 9) ⟨hx, hb, hml, hown, hts⟩ hK hG hZ hS (k_X9_copyFrom l D cy ld t 1 3 b296 b300 v302 ht_b296 ht_b300 (by omega) (by omega) (by omega)) hf301 ⟨callB_of 1 hts (wl_in mw_821) rfl rfl rfl (htl _ mw_76) (htl _ mw_818) hd_yX9_copyFrom ⟨(Nat.le_of_ble_eq_true rfl), (Nat.le_of_ble_eq_true rfl)⟩, htl _ mw_819, htl _ mw_820⟩ ht_b296 (by decide) tk_no rfl (tk_w.pick [3, 4] rfl) rfl hl.1 rfl (Nat.le_of_ble_eq_true rfl) dX1_restore_50 ⟨(Nat.le_of_ble_eq_true rfl), (Nat.le_of_ble_eq_true rfl)⟩ (fun H locs hpo hG hS hq9 => ?_)
        have hf5 := hf5.call hq9 (tk_w.no ht_b4 (by decide))
        have hf8 := hf8.call hq9 (tk_w.no ht_ld40 (by decide))
        have hf15 := hf15.call hq9 (tk_w.no ht_a0 (by decide))
        have hf301 := hf301.call hq9 (tk_w.no ht_b300 (by decide))
        have hf304 := hpo
        refine lv_aload_n hx hb dX1_restore_53 rfl (lv_at hl 1 rfl) ?_
        refine tk_get (ci := 1) (C := RX1) (T := TX1) (N := 11) (sp := (6, 20, 16, 0)) hx hb htl inX1 hown hK hG ht_a0 (by decide) tk_no rfl 4 (by decide) (htl _ mw_110) (fun _ h9 => h9) rfl dX1_restore_54 (fun v9 hf305 hV9 => ?_)
        obtain ⟨b306, rfl, ht_b306⟩ := hV9
        have ht_b306 : t b306 = (20, 16, 0) := ht_b306
        refine lv_iload_n hx hb dX1_restore_57 rfl (lv_at hl 0 rfl) ?_
        refine lv_aload_n hx hb dX1_restore_58 rfl (lv_at hl 1 rfl) ?_
        refine tk_get (ci := 1) (C := RX1) (T := TX1) (N := 11) (sp := (6, 20, 16, 0)) hx hb htl inX1 hown hK hG ht_a0 (by decide) tk_no rfl 8 (by decide) (htl _ mw_113) (fun _ h9 => h9) rfl dX1_restore_59 (fun v9 hf307 hV9 => ?_)
        obtain ⟨b308, rfl, ht_b308⟩ := hV9
        have ht_b308 : t b308 = (20, 16, 0) := ht_b308
        refine lv_iload_n hx hb dX1_restore_62 rfl (lv_at hl 0 rfl) ?_
        refine tk_iald hx hb hK hG ht_b308 (by decide) (fun _ h => h) tk_no rfl (by omega) (by omega) dX1_restore_63 (fun v309 _ _ => ?_)
        have hr_v309 := tk_rng v309
        refine tk_iast hx hb hK hG hS ht_b306 (by decide) (fun _ => Iff.rfl) tk_no rfl (by omega) (by omega) trivial (tk_w.of ht_b306 (by decide) (List.mem_of_getElem? (i := 0) rfl) (Nat.le_refl _) (Nat.le_refl _)) dX1_restore_64 (fun H locs hG hS hq9 => ?_)
        have hf5 := hf5.kept (hq9 _ (tk_ne ht_b4 ht_b306 (Or.inl (by decide))))
        have hf8 := hf8.kept (hq9 _ (tk_ne ht_ld40 ht_b306 (Or.inl (by decide))))
        have hf15 := hf15.kept (hq9 _ (tk_ne ht_a0 ht_b306 (Or.inl (by decide))))
        have hf301 := hf301.kept (hq9 _ (tk_ne ht_b300 ht_b306 (Or.inl (by decide))))
        have hf304 := hf304.kept (hq9 _ (tk_ne ht_b296 ht_b306 (Or.inl (by decide))))
        obtain ⟨v311, h_v311, e_v311⟩ := tk_inc v17 1 (by decide) (by omega) (by omega)
        refine lv_iinc (v := v311) (lv' := [(1, .int v311), (0, .ref a0)]) hx hb dX1_restore_65 hl (k := 0) rfl e_v311 (by decide) rfl (fun ls hl => ?_)
        refine lv_goto (tgt := 32) hx hb dX1_restore_68 (by decide) ?_
        exact ih v311 _ _ (by omega) (by omega) (by omega) hG hS hf5 hf8 hf15 _ (lv_sub hl [0, 1] rfl)
  have hk_0 : (0 : Int32).toInt = 0 := by decide
  exact hl272 17 0 _ _ (by omega) (by omega) (by omega) hG hS hf5 hf8 hf15 _ (lv_sub hl [0, 1] rfl)
theorem dX2_copyFrom_0 : decode cX2_copyFrom 0 = .ok (.aload_n 0, 1) := by decide +kernel
theorem dX2_copyFrom_1 : decode cX2_copyFrom 1 = .ok (.aload_n 1, 1) := by decide +kernel
theorem dX2_copyFrom_2 : decode cX2_copyFrom 2 = .ok (.getfield 62, 3) := by decide +kernel
theorem dX2_copyFrom_5 : decode cX2_copyFrom 5 = .ok (.putfield 62, 3) := by decide +kernel
theorem dX2_copyFrom_8 : decode cX2_copyFrom 8 = .ok (.aload_n 1, 1) := by decide +kernel
theorem dX2_copyFrom_9 : decode cX2_copyFrom 9 = .ok (.getfield 9, 3) := by decide +kernel
theorem dX2_copyFrom_12 : decode cX2_copyFrom 12 = .ok (.iconst 0, 1) := by decide +kernel
theorem dX2_copyFrom_13 : decode cX2_copyFrom 13 = .ok (.aload_n 0, 1) := by decide +kernel
theorem dX2_copyFrom_14 : decode cX2_copyFrom 14 = .ok (.getfield 9, 3) := by decide +kernel
theorem dX2_copyFrom_17 : decode cX2_copyFrom 17 = .ok (.iconst 0, 1) := by decide +kernel
theorem dX2_copyFrom_18 : decode cX2_copyFrom 18 = .ok (.bipush 8, 2) := by decide +kernel
theorem dX2_copyFrom_20 : decode cX2_copyFrom 20 = .ok (.invokestatic 65, 3) := by decide +kernel
theorem dX2_copyFrom_23 : decode cX2_copyFrom 23 = .ok (.aload_n 1, 1) := by decide +kernel
theorem dX2_copyFrom_24 : decode cX2_copyFrom 24 = .ok (.getfield 15, 3) := by decide +kernel
theorem dX2_copyFrom_27 : decode cX2_copyFrom 27 = .ok (.iconst 0, 1) := by decide +kernel
theorem dX2_copyFrom_28 : decode cX2_copyFrom 28 = .ok (.aload_n 0, 1) := by decide +kernel
theorem dX2_copyFrom_29 : decode cX2_copyFrom 29 = .ok (.getfield 15, 3) := by decide +kernel
theorem dX2_copyFrom_32 : decode cX2_copyFrom 32 = .ok (.iconst 0, 1) := by decide +kernel
theorem dX2_copyFrom_33 : decode cX2_copyFrom 33 = .ok (.bipush 8, 2) := by decide +kernel
theorem dX2_copyFrom_35 : decode cX2_copyFrom 35 = .ok (.invokestatic 65, 3) := by decide +kernel
theorem dX2_copyFrom_38 : decode cX2_copyFrom 38 = .ok (.aload_n 1, 1) := by decide +kernel
theorem dX2_copyFrom_39 : decode cX2_copyFrom 39 = .ok (.getfield 18, 3) := by decide +kernel
theorem dX2_copyFrom_42 : decode cX2_copyFrom 42 = .ok (.iconst 0, 1) := by decide +kernel
theorem dX2_copyFrom_43 : decode cX2_copyFrom 43 = .ok (.aload_n 0, 1) := by decide +kernel
theorem dX2_copyFrom_44 : decode cX2_copyFrom 44 = .ok (.getfield 18, 3) := by decide +kernel
theorem dX2_copyFrom_47 : decode cX2_copyFrom 47 = .ok (.iconst 0, 1) := by decide +kernel
theorem dX2_copyFrom_48 : decode cX2_copyFrom 48 = .ok (.bipush 8, 2) := by decide +kernel
theorem dX2_copyFrom_50 : decode cX2_copyFrom 50 = .ok (.invokestatic 65, 3) := by decide +kernel
theorem dX2_copyFrom_53 : decode cX2_copyFrom 53 = .ok (.aload_n 0, 1) := by decide +kernel
theorem dX2_copyFrom_54 : decode cX2_copyFrom 54 = .ok (.aload_n 1, 1) := by decide +kernel
theorem dX2_copyFrom_55 : decode cX2_copyFrom 55 = .ok (.getfield 71, 3) := by decide +kernel
theorem dX2_copyFrom_58 : decode cX2_copyFrom 58 = .ok (.putfield 71, 3) := by decide +kernel
theorem dX2_copyFrom_61 : decode cX2_copyFrom 61 = .ok (.aload_n 1, 1) := by decide +kernel
theorem dX2_copyFrom_62 : decode cX2_copyFrom 62 = .ok (.getfield 21, 3) := by decide +kernel
theorem dX2_copyFrom_65 : decode cX2_copyFrom 65 = .ok (.iconst 0, 1) := by decide +kernel
theorem dX2_copyFrom_66 : decode cX2_copyFrom 66 = .ok (.aload_n 0, 1) := by decide +kernel
theorem dX2_copyFrom_67 : decode cX2_copyFrom 67 = .ok (.getfield 21, 3) := by decide +kernel
theorem dX2_copyFrom_70 : decode cX2_copyFrom 70 = .ok (.iconst 0, 1) := by decide +kernel
theorem dX2_copyFrom_71 : decode cX2_copyFrom 71 = .ok (.bipush 10, 2) := by decide +kernel
theorem dX2_copyFrom_73 : decode cX2_copyFrom 73 = .ok (.invokestatic 65, 3) := by decide +kernel
theorem dX2_copyFrom_76 : decode cX2_copyFrom 76 = .ok (.aload_n 1, 1) := by decide +kernel
theorem dX2_copyFrom_77 : decode cX2_copyFrom 77 = .ok (.getfield 24, 3) := by decide +kernel
theorem dX2_copyFrom_80 : decode cX2_copyFrom 80 = .ok (.iconst 0, 1) := by decide +kernel
theorem dX2_copyFrom_81 : decode cX2_copyFrom 81 = .ok (.aload_n 0, 1) := by decide +kernel
theorem dX2_copyFrom_82 : decode cX2_copyFrom 82 = .ok (.getfield 24, 3) := by decide +kernel
theorem dX2_copyFrom_85 : decode cX2_copyFrom 85 = .ok (.iconst 0, 1) := by decide +kernel
theorem dX2_copyFrom_86 : decode cX2_copyFrom 86 = .ok (.bipush 10, 2) := by decide +kernel
theorem dX2_copyFrom_88 : decode cX2_copyFrom 88 = .ok (.invokestatic 65, 3) := by decide +kernel
theorem dX2_copyFrom_91 : decode cX2_copyFrom 91 = .ok (.aload_n 0, 1) := by decide +kernel
theorem dX2_copyFrom_92 : decode cX2_copyFrom 92 = .ok (.aload_n 1, 1) := by decide +kernel
theorem dX2_copyFrom_93 : decode cX2_copyFrom 93 = .ok (.getfield 74, 3) := by decide +kernel
theorem dX2_copyFrom_96 : decode cX2_copyFrom 96 = .ok (.putfield 74, 3) := by decide +kernel
theorem dX2_copyFrom_99 : decode cX2_copyFrom 99 = .ok (.aload_n 1, 1) := by decide +kernel
theorem dX2_copyFrom_100 : decode cX2_copyFrom 100 = .ok (.getfield 27, 3) := by decide +kernel
theorem dX2_copyFrom_103 : decode cX2_copyFrom 103 = .ok (.iconst 0, 1) := by decide +kernel
theorem dX2_copyFrom_104 : decode cX2_copyFrom 104 = .ok (.aload_n 0, 1) := by decide +kernel
theorem dX2_copyFrom_105 : decode cX2_copyFrom 105 = .ok (.getfield 27, 3) := by decide +kernel
theorem dX2_copyFrom_108 : decode cX2_copyFrom 108 = .ok (.iconst 0, 1) := by decide +kernel
theorem dX2_copyFrom_109 : decode cX2_copyFrom 109 = .ok (.bipush 10, 2) := by decide +kernel
theorem dX2_copyFrom_111 : decode cX2_copyFrom 111 = .ok (.invokestatic 65, 3) := by decide +kernel
theorem dX2_copyFrom_114 : decode cX2_copyFrom 114 = .ok (.aload_n 1, 1) := by decide +kernel
theorem dX2_copyFrom_115 : decode cX2_copyFrom 115 = .ok (.getfield 30, 3) := by decide +kernel
theorem dX2_copyFrom_118 : decode cX2_copyFrom 118 = .ok (.iconst 0, 1) := by decide +kernel
theorem dX2_copyFrom_119 : decode cX2_copyFrom 119 = .ok (.aload_n 0, 1) := by decide +kernel
theorem dX2_copyFrom_120 : decode cX2_copyFrom 120 = .ok (.getfield 30, 3) := by decide +kernel
theorem dX2_copyFrom_123 : decode cX2_copyFrom 123 = .ok (.iconst 0, 1) := by decide +kernel
theorem dX2_copyFrom_124 : decode cX2_copyFrom 124 = .ok (.bipush 10, 2) := by decide +kernel
theorem dX2_copyFrom_126 : decode cX2_copyFrom 126 = .ok (.invokestatic 65, 3) := by decide +kernel
theorem dX2_copyFrom_129 : decode cX2_copyFrom 129 = .ok (.aload_n 1, 1) := by decide +kernel
theorem dX2_copyFrom_130 : decode cX2_copyFrom 130 = .ok (.getfield 33, 3) := by decide +kernel
theorem dX2_copyFrom_133 : decode cX2_copyFrom 133 = .ok (.iconst 0, 1) := by decide +kernel
theorem dX2_copyFrom_134 : decode cX2_copyFrom 134 = .ok (.aload_n 0, 1) := by decide +kernel
theorem dX2_copyFrom_135 : decode cX2_copyFrom 135 = .ok (.getfield 33, 3) := by decide +kernel
theorem dX2_copyFrom_138 : decode cX2_copyFrom 138 = .ok (.iconst 0, 1) := by decide +kernel
theorem dX2_copyFrom_139 : decode cX2_copyFrom 139 = .ok (.bipush 10, 2) := by decide +kernel
theorem dX2_copyFrom_141 : decode cX2_copyFrom 141 = .ok (.invokestatic 65, 3) := by decide +kernel
theorem dX2_copyFrom_144 : decode cX2_copyFrom 144 = .ok (.aload_n 0, 1) := by decide +kernel
theorem dX2_copyFrom_145 : decode cX2_copyFrom 145 = .ok (.aload_n 1, 1) := by decide +kernel
theorem dX2_copyFrom_146 : decode cX2_copyFrom 146 = .ok (.getfield 77, 3) := by decide +kernel
theorem dX2_copyFrom_149 : decode cX2_copyFrom 149 = .ok (.putfield 77, 3) := by decide +kernel
theorem dX2_copyFrom_152 : decode cX2_copyFrom 152 = .ok (.aload_n 1, 1) := by decide +kernel
theorem dX2_copyFrom_153 : decode cX2_copyFrom 153 = .ok (.getfield 36, 3) := by decide +kernel
theorem dX2_copyFrom_156 : decode cX2_copyFrom 156 = .ok (.iconst 0, 1) := by decide +kernel
theorem dX2_copyFrom_157 : decode cX2_copyFrom 157 = .ok (.aload_n 0, 1) := by decide +kernel
theorem dX2_copyFrom_158 : decode cX2_copyFrom 158 = .ok (.getfield 36, 3) := by decide +kernel
theorem dX2_copyFrom_161 : decode cX2_copyFrom 161 = .ok (.iconst 0, 1) := by decide +kernel
theorem dX2_copyFrom_162 : decode cX2_copyFrom 162 = .ok (.aload_n 0, 1) := by decide +kernel
theorem dX2_copyFrom_163 : decode cX2_copyFrom 163 = .ok (.getfield 36, 3) := by decide +kernel
theorem dX2_copyFrom_166 : decode cX2_copyFrom 166 = .ok (.arraylength, 1) := by decide +kernel
theorem dX2_copyFrom_167 : decode cX2_copyFrom 167 = .ok (.invokestatic 65, 3) := by decide +kernel
theorem dX2_copyFrom_170 : decode cX2_copyFrom 170 = .ok (.aload_n 0, 1) := by decide +kernel
theorem dX2_copyFrom_171 : decode cX2_copyFrom 171 = .ok (.aload_n 1, 1) := by decide +kernel
theorem dX2_copyFrom_172 : decode cX2_copyFrom 172 = .ok (.getfield 80, 3) := by decide +kernel
theorem dX2_copyFrom_175 : decode cX2_copyFrom 175 = .ok (.putfield 80, 3) := by decide +kernel
theorem dX2_copyFrom_178 : decode cX2_copyFrom 178 = .ok (.iconst 0, 1) := by decide +kernel
theorem dX2_copyFrom_179 : decode cX2_copyFrom 179 = .ok (.istore_n 2, 1) := by decide +kernel
theorem dX2_copyFrom_180 : decode cX2_copyFrom 180 = .ok (.iload_n 2, 1) := by decide +kernel
theorem dX2_copyFrom_181 : decode cX2_copyFrom 181 = .ok (.bipush 6, 2) := by decide +kernel
theorem dX2_copyFrom_183 : decode cX2_copyFrom 183 = .ok (.if_icmp .ge 21, 3) := by decide +kernel
theorem dX2_copyFrom_204 : decode cX2_copyFrom 204 = .ok (.aload_n 0, 1) := by decide +kernel
theorem dX2_copyFrom_205 : decode cX2_copyFrom 205 = .ok (.aload_n 1, 1) := by decide +kernel
theorem dX2_copyFrom_206 : decode cX2_copyFrom 206 = .ok (.getfield 45, 3) := by decide +kernel
theorem dX2_copyFrom_209 : decode cX2_copyFrom 209 = .ok (.putfield 45, 3) := by decide +kernel
theorem dX2_copyFrom_212 : decode cX2_copyFrom 212 = .ok (.aload_n 0, 1) := by decide +kernel
theorem dX2_copyFrom_213 : decode cX2_copyFrom 213 = .ok (.aload_n 1, 1) := by decide +kernel
theorem dX2_copyFrom_214 : decode cX2_copyFrom 214 = .ok (.getfield 49, 3) := by decide +kernel
theorem dX2_copyFrom_217 : decode cX2_copyFrom 217 = .ok (.putfield 49, 3) := by decide +kernel
theorem dX2_copyFrom_220 : decode cX2_copyFrom 220 = .ok (.aload_n 0, 1) := by decide +kernel
theorem dX2_copyFrom_221 : decode cX2_copyFrom 221 = .ok (.aload_n 1, 1) := by decide +kernel
theorem dX2_copyFrom_222 : decode cX2_copyFrom 222 = .ok (.getfield 52, 3) := by decide +kernel
theorem dX2_copyFrom_225 : decode cX2_copyFrom 225 = .ok (.putfield 52, 3) := by decide +kernel
theorem dX2_copyFrom_228 : decode cX2_copyFrom 228 = .ok (.aload_n 0, 1) := by decide +kernel
theorem dX2_copyFrom_229 : decode cX2_copyFrom 229 = .ok (.aload_n 1, 1) := by decide +kernel
theorem dX2_copyFrom_230 : decode cX2_copyFrom 230 = .ok (.getfield 83, 3) := by decide +kernel
theorem dX2_copyFrom_233 : decode cX2_copyFrom 233 = .ok (.putfield 83, 3) := by decide +kernel
theorem dX2_copyFrom_236 : decode cX2_copyFrom 236 = .ok (.aload_n 0, 1) := by decide +kernel
theorem dX2_copyFrom_237 : decode cX2_copyFrom 237 = .ok (.getfield 58, 3) := by decide +kernel
theorem dX2_copyFrom_240 : decode cX2_copyFrom 240 = .ok (.aload_n 1, 1) := by decide +kernel
theorem dX2_copyFrom_241 : decode cX2_copyFrom 241 = .ok (.getfield 58, 3) := by decide +kernel
theorem dX2_copyFrom_244 : decode cX2_copyFrom 244 = .ok (.invokevirtual 86, 3) := by decide +kernel
theorem dX2_copyFrom_247 : decode cX2_copyFrom 247 = .ok (.return_, 1) := by decide +kernel
theorem dX2_copyFrom_186 : decode cX2_copyFrom 186 = .ok (.aload_n 0, 1) := by decide +kernel
theorem dX2_copyFrom_187 : decode cX2_copyFrom 187 = .ok (.getfield 41, 3) := by decide +kernel
theorem dX2_copyFrom_190 : decode cX2_copyFrom 190 = .ok (.iload_n 2, 1) := by decide +kernel
theorem dX2_copyFrom_191 : decode cX2_copyFrom 191 = .ok (.aload_n 1, 1) := by decide +kernel
theorem dX2_copyFrom_192 : decode cX2_copyFrom 192 = .ok (.getfield 41, 3) := by decide +kernel
theorem dX2_copyFrom_195 : decode cX2_copyFrom 195 = .ok (.iload_n 2, 1) := by decide +kernel
theorem dX2_copyFrom_196 : decode cX2_copyFrom 196 = .ok (.aaload, 1) := by decide +kernel
theorem dX2_copyFrom_198 : decode cX2_copyFrom 198 = .ok (.iinc 2 1, 3) := by decide +kernel
theorem dX2_copyFrom_201 : decode cX2_copyFrom 201 = .ok (.goto (-21), 3) := by decide +kernel
theorem dX2_copyFrom_197 : decode cX2_copyFrom 197 = .ok (.aastore, 1) := by decide +kernel
set_option maxHeartbeats 4000000 in
set_option maxRecDepth 100000 in
theorem k_X2_copyFrom (l : Launch) (D : va_G) (cy : Nat → ClassId) (ld : Nat → Nat) (t : tk_T) (rg0 : Nat) (rg1 : Nat) (a0 : Nat) (a1 : Nat) (ht_a0 : t a0 = (3, 0, rg0)) (ht_a1 : t a1 = (3, 0, rg1)) (hi_0 : rg0 ≠ rg1) : Met l yX2_copyFrom (wl yX2_copyFrom cX2_copyFrom 3 none) ({ frames := 5, cells := 0, slots := 0, locals := 280 }) (tp D cy ld t [] [.ref a0, .ref a1] (fun H => True)) (tv D cy ld t [] (fun H => True) (tk_w t [(3, rg0, rg0), (20, rg0, rg0), (21, rg0, rg0), (24, rg0, rg0), (28, rg0, rg0), (10, rg0, rg0)])) 0 0 (tk_w t [(3, rg0, rg0), (20, rg0, rg0), (21, rg0, rg0), (24, rg0, rg0), (28, rg0, rg0), (10, rg0, rg0)]) := by
  refine tk_met (y := yX2_copyFrom) (cc := cX2_copyFrom) (maxL := 3) (ret := none) (av := [.ref a0, .ref a1]) _ _ (by decide) (Nat.le_of_ble_eq_true rfl) ?_
  intro p e s m args below meth c hx hb hr hml hts htl hown hlocks hK H locs hH hG hS hB hZ ls hl
  have hown : s.vm.findClass RX2 = some m.cls := hown
  have hl : lv_has ls 3 [(0, .ref a0), (1, .ref a1)] := hl
  refine lv_aload_n hx hb dX2_copyFrom_0 rfl (lv_at hl 0 rfl) ?_
  refine lv_aload_n hx hb dX2_copyFrom_1 rfl (lv_at hl 1 rfl) ?_
  refine tk_get (ci := 2) (C := RX2) (T := TX2) (N := 20) (sp := (0, 0, 8, 0)) hx hb htl inX2 hown hK hG ht_a1 (by decide) tk_no rfl 0 (by decide) (htl _ mw_257) (fun _ h9 => h9) rfl dX2_copyFrom_2 (fun v9 hf1 hV9 => ?_)
  obtain ⟨v2, rfl, ha_v2, hb_v2⟩ := hV9
  refine tk_put (ci := 2) (v := .int v2) (ty := .int) (C := RX2) (T := TX2) (N := 20) (sp := (0, 0, 8, 0)) hx hb htl inX2 tyX2 tyX2_ok nmX2 hown hK hG hS ht_a0 (by decide) tk_no rfl 0 (by decide) (htl _ mw_257) (fun _ h9 => h9) rfl (tyX2_ok 0 (by decide)) rfl rfl rfl (tk_Vi (by omega) (by omega)) (fun _ h => h) (tk_w.of ht_a0 (by decide) (List.mem_of_getElem? (i := 0) rfl) (Nat.le_refl _) (Nat.le_refl _)) dX2_copyFrom_5 (fun H locs hG hS hf3 hq9 hj9 => ?_)
  have hf1 := hf1.kept (hq9 _ (tk_ne ht_a1 ht_a0 (Or.inr (Or.inr (by omega)))))
  refine lv_aload_n hx hb dX2_copyFrom_8 rfl (lv_at hl 1 rfl) ?_
  refine tk_get (ci := 2) (C := RX2) (T := TX2) (N := 20) (sp := (1, 20, 8, 0)) hx hb htl inX2 hown hK hG ht_a1 (by decide) tk_no rfl 1 (by decide) (htl _ mw_60) (fun _ h9 => h9) rfl dX2_copyFrom_9 (fun v9 hf5 hV9 => ?_)
  obtain ⟨b6, rfl, ht_b6⟩ := hV9
  have ht_b6 : t b6 = (20, 8, rg1) := ht_b6
  refine lv_iconst (v := 0) hx hb dX2_copyFrom_12 (by decide) ?_
  refine lv_aload_n hx hb dX2_copyFrom_13 rfl (lv_at hl 0 rfl) ?_
  refine tk_get (ci := 2) (C := RX2) (T := TX2) (N := 20) (sp := (1, 20, 8, 0)) hx hb htl inX2 hown hK hG ht_a0 (by decide) tk_no rfl 1 (by decide) (htl _ mw_60) (fun _ h9 => h9) rfl dX2_copyFrom_14 (fun v9 hf7 hV9 => ?_)
  obtain ⟨b8, rfl, ht_b8⟩ := hV9
  have ht_b8 : t b8 = (20, 8, rg0) := ht_b8
  refine lv_iconst (v := 0) hx hb dX2_copyFrom_17 (by decide) ?_
  refine lv_bipush (v := 8) hx hb dX2_copyFrom_18 (by decide) ?_
  refine tk_copy (SP := 0) (DP := 0) (NC := 8) hx hb (by rw [hml]; exact hl.1.symm) hown (htl _ mw_1712) (htl _ mw_655) (htl _ mw_656) (htl _ mw_657) hK hG hS ht_b6 ht_b8 (by decide) (by decide) (fun _ h => h) (fun _ => Iff.rfl) tk_no tk_no (by decide) (by decide) (by decide) (by decide) (by decide) (by decide) (by decide) (by decide) (fun _ _ _ _ _ => trivial) (tk_w.of ht_b8 (by decide) (List.mem_of_getElem? (i := 1) rfl) (Nat.le_refl _) (Nat.le_refl _)) (Nat.le_of_ble_eq_true rfl) (Nat.le_of_ble_eq_true rfl) dX2_copyFrom_20 (fun H locs hG hS hq9 => ?_)
  have hf1 := hf1.kept (hq9 _ (tk_ne ht_a1 ht_b8 (Or.inl (by decide))))
  have hf3 := hf3.kept (hq9 _ (tk_ne ht_a0 ht_b8 (Or.inl (by decide))))
  refine lv_aload_n hx hb dX2_copyFrom_23 rfl (lv_at hl 1 rfl) ?_
  refine tk_get (ci := 2) (C := RX2) (T := TX2) (N := 20) (sp := (1, 21, 8, 0)) hx hb htl inX2 hown hK hG ht_a1 (by decide) tk_no rfl 2 (by decide) (htl _ mw_61) (fun _ h9 => h9) rfl dX2_copyFrom_24 (fun v9 hf10 hV9 => ?_)
  obtain ⟨b11, rfl, ht_b11⟩ := hV9
  have ht_b11 : t b11 = (21, 8, rg1) := ht_b11
  refine lv_iconst (v := 0) hx hb dX2_copyFrom_27 (by decide) ?_
  refine lv_aload_n hx hb dX2_copyFrom_28 rfl (lv_at hl 0 rfl) ?_
  refine tk_get (ci := 2) (C := RX2) (T := TX2) (N := 20) (sp := (1, 21, 8, 0)) hx hb htl inX2 hown hK hG ht_a0 (by decide) tk_no rfl 2 (by decide) (htl _ mw_61) (fun _ h9 => h9) rfl dX2_copyFrom_29 (fun v9 hf12 hV9 => ?_)
  obtain ⟨b13, rfl, ht_b13⟩ := hV9
  have ht_b13 : t b13 = (21, 8, rg0) := ht_b13
  refine lv_iconst (v := 0) hx hb dX2_copyFrom_32 (by decide) ?_
  refine lv_bipush (v := 8) hx hb dX2_copyFrom_33 (by decide) ?_
  refine tk_copy (SP := 0) (DP := 0) (NC := 8) hx hb (by rw [hml]; exact hl.1.symm) hown (htl _ mw_1712) (htl _ mw_655) (htl _ mw_656) (htl _ mw_657) hK hG hS ht_b11 ht_b13 (by decide) (by decide) (fun _ h => h) (fun _ => Iff.rfl) tk_no tk_no (by decide) (by decide) (by decide) (by decide) (by decide) (by decide) (by decide) (by decide) (fun _ _ _ _ h => h) (tk_w.of ht_b13 (by decide) (List.mem_of_getElem? (i := 2) rfl) (Nat.le_refl _) (Nat.le_refl _)) (Nat.le_of_ble_eq_true rfl) (Nat.le_of_ble_eq_true rfl) dX2_copyFrom_35 (fun H locs hG hS hq9 => ?_)
  have hf1 := hf1.kept (hq9 _ (tk_ne ht_a1 ht_b13 (Or.inl (by decide))))
  have hf3 := hf3.kept (hq9 _ (tk_ne ht_a0 ht_b13 (Or.inl (by decide))))
  refine lv_aload_n hx hb dX2_copyFrom_38 rfl (lv_at hl 1 rfl) ?_
  refine tk_get (ci := 2) (C := RX2) (T := TX2) (N := 20) (sp := (1, 20, 8, 0)) hx hb htl inX2 hown hK hG ht_a1 (by decide) tk_no rfl 3 (by decide) (htl _ mw_62) (fun _ h9 => h9) rfl dX2_copyFrom_39 (fun v9 hf15 hV9 => ?_)
  obtain ⟨b16, rfl, ht_b16⟩ := hV9
  have ht_b16 : t b16 = (20, 8, rg1) := ht_b16
  refine lv_iconst (v := 0) hx hb dX2_copyFrom_42 (by decide) ?_
  refine lv_aload_n hx hb dX2_copyFrom_43 rfl (lv_at hl 0 rfl) ?_
  refine tk_get (ci := 2) (C := RX2) (T := TX2) (N := 20) (sp := (1, 20, 8, 0)) hx hb htl inX2 hown hK hG ht_a0 (by decide) tk_no rfl 3 (by decide) (htl _ mw_62) (fun _ h9 => h9) rfl dX2_copyFrom_44 (fun v9 hf17 hV9 => ?_)
  obtain ⟨b18, rfl, ht_b18⟩ := hV9
  have ht_b18 : t b18 = (20, 8, rg0) := ht_b18
  refine lv_iconst (v := 0) hx hb dX2_copyFrom_47 (by decide) ?_
  refine lv_bipush (v := 8) hx hb dX2_copyFrom_48 (by decide) ?_
  refine tk_copy (SP := 0) (DP := 0) (NC := 8) hx hb (by rw [hml]; exact hl.1.symm) hown (htl _ mw_1712) (htl _ mw_655) (htl _ mw_656) (htl _ mw_657) hK hG hS ht_b16 ht_b18 (by decide) (by decide) (fun _ h => h) (fun _ => Iff.rfl) tk_no tk_no (by decide) (by decide) (by decide) (by decide) (by decide) (by decide) (by decide) (by decide) (fun _ _ _ _ _ => trivial) (tk_w.of ht_b18 (by decide) (List.mem_of_getElem? (i := 1) rfl) (Nat.le_refl _) (Nat.le_refl _)) (Nat.le_of_ble_eq_true rfl) (Nat.le_of_ble_eq_true rfl) dX2_copyFrom_50 (fun H locs hG hS hq9 => ?_)
  have hf1 := hf1.kept (hq9 _ (tk_ne ht_a1 ht_b18 (Or.inl (by decide))))
  have hf3 := hf3.kept (hq9 _ (tk_ne ht_a0 ht_b18 (Or.inl (by decide))))
  refine lv_aload_n hx hb dX2_copyFrom_53 rfl (lv_at hl 0 rfl) ?_
  refine lv_aload_n hx hb dX2_copyFrom_54 rfl (lv_at hl 1 rfl) ?_
  refine tk_get (ci := 2) (C := RX2) (T := TX2) (N := 20) (sp := (0, 0, 10, 0)) hx hb htl inX2 hown hK hG ht_a1 (by decide) tk_no rfl 4 (by decide) (htl _ mw_333) (fun _ h9 => h9) rfl dX2_copyFrom_55 (fun v9 hf20 hV9 => ?_)
  obtain ⟨v21, rfl, ha_v21, hb_v21⟩ := hV9
  refine tk_put (ci := 2) (v := .int v21) (ty := .int) (C := RX2) (T := TX2) (N := 20) (sp := (0, 0, 10, 0)) hx hb htl inX2 tyX2 tyX2_ok nmX2 hown hK hG hS ht_a0 (by decide) tk_no rfl 4 (by decide) (htl _ mw_333) (fun _ h9 => h9) rfl (tyX2_ok 4 (by decide)) rfl rfl rfl (tk_Vi (by omega) (by omega)) (fun _ h => h) (tk_w.of ht_a0 (by decide) (List.mem_of_getElem? (i := 0) rfl) (Nat.le_refl _) (Nat.le_refl _)) dX2_copyFrom_58 (fun H locs hG hS hf22 hq9 hj9 => ?_)
  have hf1 := hf1.kept (hq9 _ (tk_ne ht_a1 ht_a0 (Or.inr (Or.inr (by omega)))))
  have hf3 := hj9 0 _ (by decide) (by decide) hf3
  have hf20 := hf20.kept (hq9 _ (tk_ne ht_a1 ht_a0 (Or.inr (Or.inr (by omega)))))
  refine lv_aload_n hx hb dX2_copyFrom_61 rfl (lv_at hl 1 rfl) ?_
  refine tk_get (ci := 2) (C := RX2) (T := TX2) (N := 20) (sp := (1, 20, 10, 0)) hx hb htl inX2 hown hK hG ht_a1 (by decide) tk_no rfl 5 (by decide) (htl _ mw_63) (fun _ h9 => h9) rfl dX2_copyFrom_62 (fun v9 hf24 hV9 => ?_)
  obtain ⟨b25, rfl, ht_b25⟩ := hV9
  have ht_b25 : t b25 = (20, 10, rg1) := ht_b25
  refine lv_iconst (v := 0) hx hb dX2_copyFrom_65 (by decide) ?_
  refine lv_aload_n hx hb dX2_copyFrom_66 rfl (lv_at hl 0 rfl) ?_
  refine tk_get (ci := 2) (C := RX2) (T := TX2) (N := 20) (sp := (1, 20, 10, 0)) hx hb htl inX2 hown hK hG ht_a0 (by decide) tk_no rfl 5 (by decide) (htl _ mw_63) (fun _ h9 => h9) rfl dX2_copyFrom_67 (fun v9 hf26 hV9 => ?_)
  obtain ⟨b27, rfl, ht_b27⟩ := hV9
  have ht_b27 : t b27 = (20, 10, rg0) := ht_b27
  refine lv_iconst (v := 0) hx hb dX2_copyFrom_70 (by decide) ?_
  refine lv_bipush (v := 10) hx hb dX2_copyFrom_71 (by decide) ?_
  refine tk_copy (SP := 0) (DP := 0) (NC := 10) hx hb (by rw [hml]; exact hl.1.symm) hown (htl _ mw_1712) (htl _ mw_655) (htl _ mw_656) (htl _ mw_657) hK hG hS ht_b25 ht_b27 (by decide) (by decide) (fun _ h => h) (fun _ => Iff.rfl) tk_no tk_no (by decide) (by decide) (by decide) (by decide) (by decide) (by decide) (by decide) (by decide) (fun _ _ _ _ _ => trivial) (tk_w.of ht_b27 (by decide) (List.mem_of_getElem? (i := 1) rfl) (Nat.le_refl _) (Nat.le_refl _)) (Nat.le_of_ble_eq_true rfl) (Nat.le_of_ble_eq_true rfl) dX2_copyFrom_73 (fun H locs hG hS hq9 => ?_)
  have hf1 := hf1.kept (hq9 _ (tk_ne ht_a1 ht_b27 (Or.inl (by decide))))
  have hf3 := hf3.kept (hq9 _ (tk_ne ht_a0 ht_b27 (Or.inl (by decide))))
  have hf20 := hf20.kept (hq9 _ (tk_ne ht_a1 ht_b27 (Or.inl (by decide))))
  have hf22 := hf22.kept (hq9 _ (tk_ne ht_a0 ht_b27 (Or.inl (by decide))))
  refine lv_aload_n hx hb dX2_copyFrom_76 rfl (lv_at hl 1 rfl) ?_
  refine tk_get (ci := 2) (C := RX2) (T := TX2) (N := 20) (sp := (1, 20, 10, 0)) hx hb htl inX2 hown hK hG ht_a1 (by decide) tk_no rfl 6 (by decide) (htl _ mw_64) (fun _ h9 => h9) rfl dX2_copyFrom_77 (fun v9 hf29 hV9 => ?_)
  obtain ⟨b30, rfl, ht_b30⟩ := hV9
  have ht_b30 : t b30 = (20, 10, rg1) := ht_b30
  refine lv_iconst (v := 0) hx hb dX2_copyFrom_80 (by decide) ?_
  refine lv_aload_n hx hb dX2_copyFrom_81 rfl (lv_at hl 0 rfl) ?_
  refine tk_get (ci := 2) (C := RX2) (T := TX2) (N := 20) (sp := (1, 20, 10, 0)) hx hb htl inX2 hown hK hG ht_a0 (by decide) tk_no rfl 6 (by decide) (htl _ mw_64) (fun _ h9 => h9) rfl dX2_copyFrom_82 (fun v9 hf31 hV9 => ?_)
  obtain ⟨b32, rfl, ht_b32⟩ := hV9
  have ht_b32 : t b32 = (20, 10, rg0) := ht_b32
  refine lv_iconst (v := 0) hx hb dX2_copyFrom_85 (by decide) ?_
  refine lv_bipush (v := 10) hx hb dX2_copyFrom_86 (by decide) ?_
  refine tk_copy (SP := 0) (DP := 0) (NC := 10) hx hb (by rw [hml]; exact hl.1.symm) hown (htl _ mw_1712) (htl _ mw_655) (htl _ mw_656) (htl _ mw_657) hK hG hS ht_b30 ht_b32 (by decide) (by decide) (fun _ h => h) (fun _ => Iff.rfl) tk_no tk_no (by decide) (by decide) (by decide) (by decide) (by decide) (by decide) (by decide) (by decide) (fun _ _ _ _ _ => trivial) (tk_w.of ht_b32 (by decide) (List.mem_of_getElem? (i := 1) rfl) (Nat.le_refl _) (Nat.le_refl _)) (Nat.le_of_ble_eq_true rfl) (Nat.le_of_ble_eq_true rfl) dX2_copyFrom_88 (fun H locs hG hS hq9 => ?_)
  have hf1 := hf1.kept (hq9 _ (tk_ne ht_a1 ht_b32 (Or.inl (by decide))))
  have hf3 := hf3.kept (hq9 _ (tk_ne ht_a0 ht_b32 (Or.inl (by decide))))
  have hf20 := hf20.kept (hq9 _ (tk_ne ht_a1 ht_b32 (Or.inl (by decide))))
  have hf22 := hf22.kept (hq9 _ (tk_ne ht_a0 ht_b32 (Or.inl (by decide))))
  refine lv_aload_n hx hb dX2_copyFrom_91 rfl (lv_at hl 0 rfl) ?_
  refine lv_aload_n hx hb dX2_copyFrom_92 rfl (lv_at hl 1 rfl) ?_
  refine tk_get (ci := 2) (C := RX2) (T := TX2) (N := 20) (sp := (0, 0, 10, 0)) hx hb htl inX2 hown hK hG ht_a1 (by decide) tk_no rfl 7 (by decide) (htl _ mw_369) (fun _ h9 => h9) rfl dX2_copyFrom_93 (fun v9 hf34 hV9 => ?_)
  obtain ⟨v35, rfl, ha_v35, hb_v35⟩ := hV9
  refine tk_put (ci := 2) (v := .int v35) (ty := .int) (C := RX2) (T := TX2) (N := 20) (sp := (0, 0, 10, 0)) hx hb htl inX2 tyX2 tyX2_ok nmX2 hown hK hG hS ht_a0 (by decide) tk_no rfl 7 (by decide) (htl _ mw_369) (fun _ h9 => h9) rfl (tyX2_ok 7 (by decide)) rfl rfl rfl (tk_Vi (by omega) (by omega)) (fun _ h => h) (tk_w.of ht_a0 (by decide) (List.mem_of_getElem? (i := 0) rfl) (Nat.le_refl _) (Nat.le_refl _)) dX2_copyFrom_96 (fun H locs hG hS hf36 hq9 hj9 => ?_)
  have hf1 := hf1.kept (hq9 _ (tk_ne ht_a1 ht_a0 (Or.inr (Or.inr (by omega)))))
  have hf3 := hj9 0 _ (by decide) (by decide) hf3
  have hf20 := hf20.kept (hq9 _ (tk_ne ht_a1 ht_a0 (Or.inr (Or.inr (by omega)))))
  have hf22 := hj9 4 _ (by decide) (by decide) hf22
  have hf34 := hf34.kept (hq9 _ (tk_ne ht_a1 ht_a0 (Or.inr (Or.inr (by omega)))))
  refine lv_aload_n hx hb dX2_copyFrom_99 rfl (lv_at hl 1 rfl) ?_
  refine tk_get (ci := 2) (C := RX2) (T := TX2) (N := 20) (sp := (1, 20, 10, 0)) hx hb htl inX2 hown hK hG ht_a1 (by decide) tk_no rfl 8 (by decide) (htl _ mw_65) (fun _ h9 => h9) rfl dX2_copyFrom_100 (fun v9 hf38 hV9 => ?_)
  obtain ⟨b39, rfl, ht_b39⟩ := hV9
  have ht_b39 : t b39 = (20, 10, rg1) := ht_b39
  refine lv_iconst (v := 0) hx hb dX2_copyFrom_103 (by decide) ?_
  refine lv_aload_n hx hb dX2_copyFrom_104 rfl (lv_at hl 0 rfl) ?_
  refine tk_get (ci := 2) (C := RX2) (T := TX2) (N := 20) (sp := (1, 20, 10, 0)) hx hb htl inX2 hown hK hG ht_a0 (by decide) tk_no rfl 8 (by decide) (htl _ mw_65) (fun _ h9 => h9) rfl dX2_copyFrom_105 (fun v9 hf40 hV9 => ?_)
  obtain ⟨b41, rfl, ht_b41⟩ := hV9
  have ht_b41 : t b41 = (20, 10, rg0) := ht_b41
  refine lv_iconst (v := 0) hx hb dX2_copyFrom_108 (by decide) ?_
  refine lv_bipush (v := 10) hx hb dX2_copyFrom_109 (by decide) ?_
  refine tk_copy (SP := 0) (DP := 0) (NC := 10) hx hb (by rw [hml]; exact hl.1.symm) hown (htl _ mw_1712) (htl _ mw_655) (htl _ mw_656) (htl _ mw_657) hK hG hS ht_b39 ht_b41 (by decide) (by decide) (fun _ h => h) (fun _ => Iff.rfl) tk_no tk_no (by decide) (by decide) (by decide) (by decide) (by decide) (by decide) (by decide) (by decide) (fun _ _ _ _ _ => trivial) (tk_w.of ht_b41 (by decide) (List.mem_of_getElem? (i := 1) rfl) (Nat.le_refl _) (Nat.le_refl _)) (Nat.le_of_ble_eq_true rfl) (Nat.le_of_ble_eq_true rfl) dX2_copyFrom_111 (fun H locs hG hS hq9 => ?_)
  have hf1 := hf1.kept (hq9 _ (tk_ne ht_a1 ht_b41 (Or.inl (by decide))))
  have hf3 := hf3.kept (hq9 _ (tk_ne ht_a0 ht_b41 (Or.inl (by decide))))
  have hf20 := hf20.kept (hq9 _ (tk_ne ht_a1 ht_b41 (Or.inl (by decide))))
  have hf22 := hf22.kept (hq9 _ (tk_ne ht_a0 ht_b41 (Or.inl (by decide))))
  have hf34 := hf34.kept (hq9 _ (tk_ne ht_a1 ht_b41 (Or.inl (by decide))))
  have hf36 := hf36.kept (hq9 _ (tk_ne ht_a0 ht_b41 (Or.inl (by decide))))
  refine lv_aload_n hx hb dX2_copyFrom_114 rfl (lv_at hl 1 rfl) ?_
  refine tk_get (ci := 2) (C := RX2) (T := TX2) (N := 20) (sp := (1, 20, 10, 0)) hx hb htl inX2 hown hK hG ht_a1 (by decide) tk_no rfl 9 (by decide) (htl _ mw_66) (fun _ h9 => h9) rfl dX2_copyFrom_115 (fun v9 hf43 hV9 => ?_)
  obtain ⟨b44, rfl, ht_b44⟩ := hV9
  have ht_b44 : t b44 = (20, 10, rg1) := ht_b44
  refine lv_iconst (v := 0) hx hb dX2_copyFrom_118 (by decide) ?_
  refine lv_aload_n hx hb dX2_copyFrom_119 rfl (lv_at hl 0 rfl) ?_
  refine tk_get (ci := 2) (C := RX2) (T := TX2) (N := 20) (sp := (1, 20, 10, 0)) hx hb htl inX2 hown hK hG ht_a0 (by decide) tk_no rfl 9 (by decide) (htl _ mw_66) (fun _ h9 => h9) rfl dX2_copyFrom_120 (fun v9 hf45 hV9 => ?_)
  obtain ⟨b46, rfl, ht_b46⟩ := hV9
  have ht_b46 : t b46 = (20, 10, rg0) := ht_b46
  refine lv_iconst (v := 0) hx hb dX2_copyFrom_123 (by decide) ?_
  refine lv_bipush (v := 10) hx hb dX2_copyFrom_124 (by decide) ?_
  refine tk_copy (SP := 0) (DP := 0) (NC := 10) hx hb (by rw [hml]; exact hl.1.symm) hown (htl _ mw_1712) (htl _ mw_655) (htl _ mw_656) (htl _ mw_657) hK hG hS ht_b44 ht_b46 (by decide) (by decide) (fun _ h => h) (fun _ => Iff.rfl) tk_no tk_no (by decide) (by decide) (by decide) (by decide) (by decide) (by decide) (by decide) (by decide) (fun _ _ _ _ _ => trivial) (tk_w.of ht_b46 (by decide) (List.mem_of_getElem? (i := 1) rfl) (Nat.le_refl _) (Nat.le_refl _)) (Nat.le_of_ble_eq_true rfl) (Nat.le_of_ble_eq_true rfl) dX2_copyFrom_126 (fun H locs hG hS hq9 => ?_)
  have hf1 := hf1.kept (hq9 _ (tk_ne ht_a1 ht_b46 (Or.inl (by decide))))
  have hf3 := hf3.kept (hq9 _ (tk_ne ht_a0 ht_b46 (Or.inl (by decide))))
  have hf20 := hf20.kept (hq9 _ (tk_ne ht_a1 ht_b46 (Or.inl (by decide))))
  have hf22 := hf22.kept (hq9 _ (tk_ne ht_a0 ht_b46 (Or.inl (by decide))))
  have hf34 := hf34.kept (hq9 _ (tk_ne ht_a1 ht_b46 (Or.inl (by decide))))
  have hf36 := hf36.kept (hq9 _ (tk_ne ht_a0 ht_b46 (Or.inl (by decide))))
  refine lv_aload_n hx hb dX2_copyFrom_129 rfl (lv_at hl 1 rfl) ?_
  refine tk_get (ci := 2) (C := RX2) (T := TX2) (N := 20) (sp := (1, 20, 10, 0)) hx hb htl inX2 hown hK hG ht_a1 (by decide) tk_no rfl 10 (by decide) (htl _ mw_67) (fun _ h9 => h9) rfl dX2_copyFrom_130 (fun v9 hf48 hV9 => ?_)
  obtain ⟨b49, rfl, ht_b49⟩ := hV9
  have ht_b49 : t b49 = (20, 10, rg1) := ht_b49
  refine lv_iconst (v := 0) hx hb dX2_copyFrom_133 (by decide) ?_
  refine lv_aload_n hx hb dX2_copyFrom_134 rfl (lv_at hl 0 rfl) ?_
  refine tk_get (ci := 2) (C := RX2) (T := TX2) (N := 20) (sp := (1, 20, 10, 0)) hx hb htl inX2 hown hK hG ht_a0 (by decide) tk_no rfl 10 (by decide) (htl _ mw_67) (fun _ h9 => h9) rfl dX2_copyFrom_135 (fun v9 hf50 hV9 => ?_)
  obtain ⟨b51, rfl, ht_b51⟩ := hV9
  have ht_b51 : t b51 = (20, 10, rg0) := ht_b51
  refine lv_iconst (v := 0) hx hb dX2_copyFrom_138 (by decide) ?_
  refine lv_bipush (v := 10) hx hb dX2_copyFrom_139 (by decide) ?_
  refine tk_copy (SP := 0) (DP := 0) (NC := 10) hx hb (by rw [hml]; exact hl.1.symm) hown (htl _ mw_1712) (htl _ mw_655) (htl _ mw_656) (htl _ mw_657) hK hG hS ht_b49 ht_b51 (by decide) (by decide) (fun _ h => h) (fun _ => Iff.rfl) tk_no tk_no (by decide) (by decide) (by decide) (by decide) (by decide) (by decide) (by decide) (by decide) (fun _ _ _ _ _ => trivial) (tk_w.of ht_b51 (by decide) (List.mem_of_getElem? (i := 1) rfl) (Nat.le_refl _) (Nat.le_refl _)) (Nat.le_of_ble_eq_true rfl) (Nat.le_of_ble_eq_true rfl) dX2_copyFrom_141 (fun H locs hG hS hq9 => ?_)
  have hf1 := hf1.kept (hq9 _ (tk_ne ht_a1 ht_b51 (Or.inl (by decide))))
  have hf3 := hf3.kept (hq9 _ (tk_ne ht_a0 ht_b51 (Or.inl (by decide))))
  have hf20 := hf20.kept (hq9 _ (tk_ne ht_a1 ht_b51 (Or.inl (by decide))))
  have hf22 := hf22.kept (hq9 _ (tk_ne ht_a0 ht_b51 (Or.inl (by decide))))
  have hf34 := hf34.kept (hq9 _ (tk_ne ht_a1 ht_b51 (Or.inl (by decide))))
  have hf36 := hf36.kept (hq9 _ (tk_ne ht_a0 ht_b51 (Or.inl (by decide))))
  refine lv_aload_n hx hb dX2_copyFrom_144 rfl (lv_at hl 0 rfl) ?_
  refine lv_aload_n hx hb dX2_copyFrom_145 rfl (lv_at hl 1 rfl) ?_
  refine tk_get (ci := 2) (C := RX2) (T := TX2) (N := 20) (sp := (0, 0, 8, 0)) hx hb htl inX2 hown hK hG ht_a1 (by decide) tk_no rfl 11 (by decide) (htl _ mw_1489) (fun _ h9 => h9) rfl dX2_copyFrom_146 (fun v9 hf53 hV9 => ?_)
  obtain ⟨v54, rfl, ha_v54, hb_v54⟩ := hV9
  refine tk_put (ci := 2) (v := .int v54) (ty := .int) (C := RX2) (T := TX2) (N := 20) (sp := (0, 0, 8, 0)) hx hb htl inX2 tyX2 tyX2_ok nmX2 hown hK hG hS ht_a0 (by decide) tk_no rfl 11 (by decide) (htl _ mw_1489) (fun _ h9 => h9) rfl (tyX2_ok 11 (by decide)) rfl rfl rfl (tk_Vi (by omega) (by omega)) (fun _ h => h) (tk_w.of ht_a0 (by decide) (List.mem_of_getElem? (i := 0) rfl) (Nat.le_refl _) (Nat.le_refl _)) dX2_copyFrom_149 (fun H locs hG hS hf55 hq9 hj9 => ?_)
  have hf1 := hf1.kept (hq9 _ (tk_ne ht_a1 ht_a0 (Or.inr (Or.inr (by omega)))))
  have hf3 := hj9 0 _ (by decide) (by decide) hf3
  have hf20 := hf20.kept (hq9 _ (tk_ne ht_a1 ht_a0 (Or.inr (Or.inr (by omega)))))
  have hf22 := hj9 4 _ (by decide) (by decide) hf22
  have hf34 := hf34.kept (hq9 _ (tk_ne ht_a1 ht_a0 (Or.inr (Or.inr (by omega)))))
  have hf36 := hj9 7 _ (by decide) (by decide) hf36
  have hf53 := hf53.kept (hq9 _ (tk_ne ht_a1 ht_a0 (Or.inr (Or.inr (by omega)))))
  refine lv_aload_n hx hb dX2_copyFrom_152 rfl (lv_at hl 1 rfl) ?_
  refine tk_get (ci := 2) (C := RX2) (T := TX2) (N := 20) (sp := (1, 24, 40, 0)) hx hb htl inX2 hown hK hG ht_a1 (by decide) tk_no rfl 12 (by decide) (htl _ mw_68) (fun _ h9 => h9) rfl dX2_copyFrom_153 (fun v9 hf57 hV9 => ?_)
  obtain ⟨b58, rfl, ht_b58⟩ := hV9
  have ht_b58 : t b58 = (24, 40, rg1) := ht_b58
  refine lv_iconst (v := 0) hx hb dX2_copyFrom_156 (by decide) ?_
  refine lv_aload_n hx hb dX2_copyFrom_157 rfl (lv_at hl 0 rfl) ?_
  refine tk_get (ci := 2) (C := RX2) (T := TX2) (N := 20) (sp := (1, 24, 40, 0)) hx hb htl inX2 hown hK hG ht_a0 (by decide) tk_no rfl 12 (by decide) (htl _ mw_68) (fun _ h9 => h9) rfl dX2_copyFrom_158 (fun v9 hf59 hV9 => ?_)
  obtain ⟨b60, rfl, ht_b60⟩ := hV9
  have ht_b60 : t b60 = (24, 40, rg0) := ht_b60
  refine lv_iconst (v := 0) hx hb dX2_copyFrom_161 (by decide) ?_
  refine lv_aload_n hx hb dX2_copyFrom_162 rfl (lv_at hl 0 rfl) ?_
  refine tk_get (ci := 2) (C := RX2) (T := TX2) (N := 20) (sp := (1, 24, 40, 0)) hx hb htl inX2 hown hK hG ht_a0 (by decide) tk_no rfl 12 (by decide) (htl _ mw_68) (fun _ h9 => h9) rfl dX2_copyFrom_163 (fun v9 hf61 hV9 => ?_)
  obtain ⟨b62, rfl, ht_b62⟩ := hV9
  have ht_b62 : t b62 = (24, 40, rg0) := ht_b62
  refine tk_alen hx hb hK hG 0 rfl ht_b62 (by decide) (fun _ h => by obtain ⟨f, h, _⟩ := h; exact ⟨_, h⟩) tk_no (by decide) dX2_copyFrom_166 (fun z hz => ?_)
  obtain rfl : z = 40 := (fi_eq hz (by decide)).mpr rfl
  refine tk_copy (SP := 0) (DP := 0) (NC := 40) hx hb (by rw [hml]; exact hl.1.symm) hown (htl _ mw_1712) (htl _ mw_655) (htl _ mw_656) (htl _ mw_657) hK hG hS ht_b58 ht_b60 (by decide) (by decide) (fun _ h => h) (fun _ => Iff.rfl) tk_no tk_no (by decide) (by decide) (by decide) (by decide) (by decide) (by decide) (by decide) (by decide) (fun _ _ _ _ h => h) (tk_w.of ht_b60 (by decide) (List.mem_of_getElem? (i := 3) rfl) (Nat.le_refl _) (Nat.le_refl _)) (Nat.le_of_ble_eq_true rfl) (Nat.le_of_ble_eq_true rfl) dX2_copyFrom_167 (fun H locs hG hS hq9 => ?_)
  have hf1 := hf1.kept (hq9 _ (tk_ne ht_a1 ht_b60 (Or.inl (by decide))))
  have hf3 := hf3.kept (hq9 _ (tk_ne ht_a0 ht_b60 (Or.inl (by decide))))
  have hf20 := hf20.kept (hq9 _ (tk_ne ht_a1 ht_b60 (Or.inl (by decide))))
  have hf22 := hf22.kept (hq9 _ (tk_ne ht_a0 ht_b60 (Or.inl (by decide))))
  have hf34 := hf34.kept (hq9 _ (tk_ne ht_a1 ht_b60 (Or.inl (by decide))))
  have hf36 := hf36.kept (hq9 _ (tk_ne ht_a0 ht_b60 (Or.inl (by decide))))
  have hf53 := hf53.kept (hq9 _ (tk_ne ht_a1 ht_b60 (Or.inl (by decide))))
  have hf55 := hf55.kept (hq9 _ (tk_ne ht_a0 ht_b60 (Or.inl (by decide))))
  refine lv_aload_n hx hb dX2_copyFrom_170 rfl (lv_at hl 0 rfl) ?_
  refine lv_aload_n hx hb dX2_copyFrom_171 rfl (lv_at hl 1 rfl) ?_
  refine tk_get (ci := 2) (C := RX2) (T := TX2) (N := 20) (sp := (0, 0, 6, 0)) hx hb htl inX2 hown hK hG ht_a1 (by decide) tk_no rfl 13 (by decide) (htl _ mw_663) (fun _ h9 => h9) rfl dX2_copyFrom_172 (fun v9 hf64 hV9 => ?_)
  obtain ⟨v65, rfl, ha_v65, hb_v65⟩ := hV9
  refine tk_put (ci := 2) (v := .int v65) (ty := .int) (C := RX2) (T := TX2) (N := 20) (sp := (0, 0, 6, 0)) hx hb htl inX2 tyX2 tyX2_ok nmX2 hown hK hG hS ht_a0 (by decide) tk_no rfl 13 (by decide) (htl _ mw_663) (fun _ h9 => h9) rfl (tyX2_ok 13 (by decide)) rfl rfl rfl (tk_Vi (by omega) (by omega)) (fun _ h => h) (tk_w.of ht_a0 (by decide) (List.mem_of_getElem? (i := 0) rfl) (Nat.le_refl _) (Nat.le_refl _)) dX2_copyFrom_175 (fun H locs hG hS hf66 hq9 hj9 => ?_)
  have hf1 := hf1.kept (hq9 _ (tk_ne ht_a1 ht_a0 (Or.inr (Or.inr (by omega)))))
  have hf3 := hj9 0 _ (by decide) (by decide) hf3
  have hf20 := hf20.kept (hq9 _ (tk_ne ht_a1 ht_a0 (Or.inr (Or.inr (by omega)))))
  have hf22 := hj9 4 _ (by decide) (by decide) hf22
  have hf34 := hf34.kept (hq9 _ (tk_ne ht_a1 ht_a0 (Or.inr (Or.inr (by omega)))))
  have hf36 := hj9 7 _ (by decide) (by decide) hf36
  have hf53 := hf53.kept (hq9 _ (tk_ne ht_a1 ht_a0 (Or.inr (Or.inr (by omega)))))
  have hf55 := hj9 11 _ (by decide) (by decide) hf55
  have hf64 := hf64.kept (hq9 _ (tk_ne ht_a1 ht_a0 (Or.inr (Or.inr (by omega)))))
  refine lv_iconst (v := 0) hx hb dX2_copyFrom_178 (by decide) ?_
  refine lv_istore_n (lv' := [(2, .int 0), (0, .ref a0), (1, .ref a1)]) hx hb dX2_copyFrom_179 rfl hl (by decide) rfl (fun ls hl => ?_)
  have hl390 : ∀ (N : Nat) (v68 : Int32) (H : Heap) (locs : List Loc), v68.toInt ≤ 6 → 0 ≤ v68.toInt → (-1) * v68.toInt + 6 < (N : Int) → tk_G D cy ld t [] H → va_S (tk_w t [(3, rg0, rg0), (20, rg0, rg0), (21, rg0, rg0), (24, rg0, rg0), (28, rg0, rg0), (10, rg0, rg0)]) s.heap H locs → tk_f D H a1 2 0 (.int v2) → tk_f D H a0 2 0 (.int v2) → tk_f D H a1 2 4 (.int v21) → tk_f D H a0 2 4 (.int v21) → tk_f D H a1 2 7 (.int v35) → tk_f D H a0 2 7 (.int v35) → tk_f D H a1 2 11 (.int v54) → tk_f D H a0 2 11 (.int v54) → tk_f D H a1 2 13 (.int v65) → tk_f D H a0 2 13 (.int v65) → ∀ ls : Array Slot, lv_has ls 3 [(2, .int v68), (0, .ref a0), (1, .ref a1)] → W p l e ({ frames := 5, cells := 0, slots := 0, locals := 280 }) s m args below meth c H locs 0 0 (MQ below (tv D cy ld t [] (fun H => True) (tk_w t [(3, rg0, rg0), (20, rg0, rg0), (21, rg0, rg0), (24, rg0, rg0), (28, rg0, rg0), (10, rg0, rg0)])) args s 0 0 (tk_w t [(3, rg0, rg0), (20, rg0, rg0), (21, rg0, rg0), (24, rg0, rg0), (28, rg0, rg0), (10, rg0, rg0)])) (F0 m 180 ls []) := by
    intro N
    induction N with
    | zero => intro v68 H locs hq0_l390 hq1_l390 hm_l390 hG hS hf1 hf3 hf20 hf22 hf34 hf36 hf53 hf55 hf64 hf66 ls hl; exfalso; omega
    | succ N ih =>
      intro v68 H locs hq0_l390 hq1_l390 hm_l390 hG hS hf1 hf3 hf20 hf22 hf34 hf36 hf53 hf55 hf64 hf66 ls hl
      refine lv_iload_n hx hb dX2_copyFrom_180 rfl (lv_at hl 0 rfl) ?_
      refine lv_bipush (v := 6) hx hb dX2_copyFrom_181 (by decide) ?_
      refine lv_icmp_ge (tgt := 204) hx hb dX2_copyFrom_183 (by decide) (fun c9 => ?_) (fun c9 => ?_)
      · have hc391 : 6 ≤ v68.toInt := (fi_le (by decide) rfl).mp c9
        refine lv_aload_n hx hb dX2_copyFrom_204 rfl (lv_at hl 1 rfl) ?_
        refine lv_aload_n hx hb dX2_copyFrom_205 rfl (lv_at hl 2 rfl) ?_
        refine tk_get (ci := 2) (C := RX2) (T := TX2) (N := 20) (sp := (0, (-2147483648), 2147483647, 0)) hx hb htl inX2 hown hK hG ht_a1 (by decide) tk_no rfl 15 (by decide) (htl _ mw_71) (fun _ h9 => h9) rfl dX2_copyFrom_206 (fun v9 hf406 hV9 => ?_)
        obtain ⟨v407, rfl, ha_v407, hb_v407⟩ := hV9
        refine tk_put (ci := 2) (v := .int v407) (ty := .int) (C := RX2) (T := TX2) (N := 20) (sp := (0, (-2147483648), 2147483647, 0)) hx hb htl inX2 tyX2 tyX2_ok nmX2 hown hK hG hS ht_a0 (by decide) tk_no rfl 15 (by decide) (htl _ mw_71) (fun _ h9 => h9) rfl (tyX2_ok 15 (by decide)) rfl rfl rfl (tk_Vi (tk_rng _).1 (tk_rng _).2) (fun _ h => h) (tk_w.of ht_a0 (by decide) (List.mem_of_getElem? (i := 0) rfl) (Nat.le_refl _) (Nat.le_refl _)) dX2_copyFrom_209 (fun H locs hG hS hf408 hq9 hj9 => ?_)
        have hf1 := hf1.kept (hq9 _ (tk_ne ht_a1 ht_a0 (Or.inr (Or.inr (by omega)))))
        have hf3 := hj9 0 _ (by decide) (by decide) hf3
        have hf20 := hf20.kept (hq9 _ (tk_ne ht_a1 ht_a0 (Or.inr (Or.inr (by omega)))))
        have hf22 := hj9 4 _ (by decide) (by decide) hf22
        have hf34 := hf34.kept (hq9 _ (tk_ne ht_a1 ht_a0 (Or.inr (Or.inr (by omega)))))
        have hf36 := hj9 7 _ (by decide) (by decide) hf36
        have hf53 := hf53.kept (hq9 _ (tk_ne ht_a1 ht_a0 (Or.inr (Or.inr (by omega)))))
        have hf55 := hj9 11 _ (by decide) (by decide) hf55
        have hf64 := hf64.kept (hq9 _ (tk_ne ht_a1 ht_a0 (Or.inr (Or.inr (by omega)))))
        have hf66 := hj9 13 _ (by decide) (by decide) hf66
        have hf406 := hf406.kept (hq9 _ (tk_ne ht_a1 ht_a0 (Or.inr (Or.inr (by omega)))))
        refine lv_aload_n hx hb dX2_copyFrom_212 rfl (lv_at hl 1 rfl) ?_
        refine lv_aload_n hx hb dX2_copyFrom_213 rfl (lv_at hl 2 rfl) ?_
        refine tk_get (ci := 2) (C := RX2) (T := TX2) (N := 20) (sp := (0, (-2147483648), 2147483647, 0)) hx hb htl inX2 hown hK hG ht_a1 (by decide) tk_no rfl 16 (by decide) (htl _ mw_72) (fun _ h9 => h9) rfl dX2_copyFrom_214 (fun v9 hf410 hV9 => ?_)
        obtain ⟨v411, rfl, ha_v411, hb_v411⟩ := hV9
        refine tk_put (ci := 2) (v := .int v411) (ty := .int) (C := RX2) (T := TX2) (N := 20) (sp := (0, (-2147483648), 2147483647, 0)) hx hb htl inX2 tyX2 tyX2_ok nmX2 hown hK hG hS ht_a0 (by decide) tk_no rfl 16 (by decide) (htl _ mw_72) (fun _ h9 => h9) rfl (tyX2_ok 16 (by decide)) rfl rfl rfl (tk_Vi (tk_rng _).1 (tk_rng _).2) (fun _ h => h) (tk_w.of ht_a0 (by decide) (List.mem_of_getElem? (i := 0) rfl) (Nat.le_refl _) (Nat.le_refl _)) dX2_copyFrom_217 (fun H locs hG hS hf412 hq9 hj9 => ?_)
        have hf1 := hf1.kept (hq9 _ (tk_ne ht_a1 ht_a0 (Or.inr (Or.inr (by omega)))))
        have hf3 := hj9 0 _ (by decide) (by decide) hf3
        have hf20 := hf20.kept (hq9 _ (tk_ne ht_a1 ht_a0 (Or.inr (Or.inr (by omega)))))
        have hf22 := hj9 4 _ (by decide) (by decide) hf22
        have hf34 := hf34.kept (hq9 _ (tk_ne ht_a1 ht_a0 (Or.inr (Or.inr (by omega)))))
        have hf36 := hj9 7 _ (by decide) (by decide) hf36
        have hf53 := hf53.kept (hq9 _ (tk_ne ht_a1 ht_a0 (Or.inr (Or.inr (by omega)))))
        have hf55 := hj9 11 _ (by decide) (by decide) hf55
        have hf64 := hf64.kept (hq9 _ (tk_ne ht_a1 ht_a0 (Or.inr (Or.inr (by omega)))))
        have hf66 := hj9 13 _ (by decide) (by decide) hf66
        have hf406 := hf406.kept (hq9 _ (tk_ne ht_a1 ht_a0 (Or.inr (Or.inr (by omega)))))
        have hf408 := hj9 15 _ (by decide) (by decide) hf408
        refine lv_aload_n hx hb dX2_copyFrom_220 rfl (lv_at hl 1 rfl) ?_
        refine lv_aload_n hx hb dX2_copyFrom_221 rfl (lv_at hl 2 rfl) ?_
        refine tk_get (ci := 2) (C := RX2) (T := TX2) (N := 20) (sp := (0, (-2147483648), 2147483647, 0)) hx hb htl inX2 hown hK hG ht_a1 (by decide) tk_no rfl 17 (by decide) (htl _ mw_73) (fun _ h9 => h9) rfl dX2_copyFrom_222 (fun v9 hf414 hV9 => ?_)
        obtain ⟨v415, rfl, ha_v415, hb_v415⟩ := hV9
        refine tk_put (ci := 2) (v := .int v415) (ty := .int) (C := RX2) (T := TX2) (N := 20) (sp := (0, (-2147483648), 2147483647, 0)) hx hb htl inX2 tyX2 tyX2_ok nmX2 hown hK hG hS ht_a0 (by decide) tk_no rfl 17 (by decide) (htl _ mw_73) (fun _ h9 => h9) rfl (tyX2_ok 17 (by decide)) rfl rfl rfl (tk_Vi (tk_rng _).1 (tk_rng _).2) (fun _ h => h) (tk_w.of ht_a0 (by decide) (List.mem_of_getElem? (i := 0) rfl) (Nat.le_refl _) (Nat.le_refl _)) dX2_copyFrom_225 (fun H locs hG hS hf416 hq9 hj9 => ?_)
        have hf1 := hf1.kept (hq9 _ (tk_ne ht_a1 ht_a0 (Or.inr (Or.inr (by omega)))))
        have hf3 := hj9 0 _ (by decide) (by decide) hf3
        have hf20 := hf20.kept (hq9 _ (tk_ne ht_a1 ht_a0 (Or.inr (Or.inr (by omega)))))
        have hf22 := hj9 4 _ (by decide) (by decide) hf22
        have hf34 := hf34.kept (hq9 _ (tk_ne ht_a1 ht_a0 (Or.inr (Or.inr (by omega)))))
        have hf36 := hj9 7 _ (by decide) (by decide) hf36
        have hf53 := hf53.kept (hq9 _ (tk_ne ht_a1 ht_a0 (Or.inr (Or.inr (by omega)))))
        have hf55 := hj9 11 _ (by decide) (by decide) hf55
        have hf64 := hf64.kept (hq9 _ (tk_ne ht_a1 ht_a0 (Or.inr (Or.inr (by omega)))))
        have hf66 := hj9 13 _ (by decide) (by decide) hf66
        have hf406 := hf406.kept (hq9 _ (tk_ne ht_a1 ht_a0 (Or.inr (Or.inr (by omega)))))
        have hf408 := hj9 15 _ (by decide) (by decide) hf408
        refine lv_aload_n hx hb dX2_copyFrom_228 rfl (lv_at hl 1 rfl) ?_
        refine lv_aload_n hx hb dX2_copyFrom_229 rfl (lv_at hl 2 rfl) ?_
        refine tk_get (ci := 2) (C := RX2) (T := TX2) (N := 20) (sp := (0, (-2147483648), 2147483647, 0)) hx hb htl inX2 hown hK hG ht_a1 (by decide) tk_no rfl 18 (by decide) (htl _ mw_409) (fun _ h9 => h9) rfl dX2_copyFrom_230 (fun v9 hf418 hV9 => ?_)
        obtain ⟨v419, rfl, ha_v419, hb_v419⟩ := hV9
        refine tk_put (ci := 2) (v := .int v419) (ty := .int) (C := RX2) (T := TX2) (N := 20) (sp := (0, (-2147483648), 2147483647, 0)) hx hb htl inX2 tyX2 tyX2_ok nmX2 hown hK hG hS ht_a0 (by decide) tk_no rfl 18 (by decide) (htl _ mw_409) (fun _ h9 => h9) rfl (tyX2_ok 18 (by decide)) rfl rfl rfl (tk_Vi (tk_rng _).1 (tk_rng _).2) (fun _ h => h) (tk_w.of ht_a0 (by decide) (List.mem_of_getElem? (i := 0) rfl) (Nat.le_refl _) (Nat.le_refl _)) dX2_copyFrom_233 (fun H locs hG hS hf420 hq9 hj9 => ?_)
        have hf1 := hf1.kept (hq9 _ (tk_ne ht_a1 ht_a0 (Or.inr (Or.inr (by omega)))))
        have hf3 := hj9 0 _ (by decide) (by decide) hf3
        have hf20 := hf20.kept (hq9 _ (tk_ne ht_a1 ht_a0 (Or.inr (Or.inr (by omega)))))
        have hf22 := hj9 4 _ (by decide) (by decide) hf22
        have hf34 := hf34.kept (hq9 _ (tk_ne ht_a1 ht_a0 (Or.inr (Or.inr (by omega)))))
        have hf36 := hj9 7 _ (by decide) (by decide) hf36
        have hf53 := hf53.kept (hq9 _ (tk_ne ht_a1 ht_a0 (Or.inr (Or.inr (by omega)))))
        have hf55 := hj9 11 _ (by decide) (by decide) hf55
        have hf64 := hf64.kept (hq9 _ (tk_ne ht_a1 ht_a0 (Or.inr (Or.inr (by omega)))))
        have hf66 := hj9 13 _ (by decide) (by decide) hf66
        have hf406 := hf406.kept (hq9 _ (tk_ne ht_a1 ht_a0 (Or.inr (Or.inr (by omega)))))
        have hf408 := hj9 15 _ (by decide) (by decide) hf408
        refine lv_aload_n hx hb dX2_copyFrom_236 rfl (lv_at hl 1 rfl) ?_
        refine tk_get (ci := 2) (C := RX2) (T := TX2) (N := 20) (sp := (9, 40, 10, 0)) hx hb htl inX2 hown hK hG ht_a0 (by decide) tk_no rfl 19 (by decide) (htl _ mw_77) (fun _ h9 => h9) rfl dX2_copyFrom_237 (fun v9 hf422 hV9 => ?_)
        obtain ⟨rfl, ht_ld40rg0⟩ := hV9
        have ht_ld40rg0 : t (ld (40 + rg0)) = (10, 0, rg0) := ht_ld40rg0
        refine fx_top (v := .ref (ld (40 + rg0))) rfl ?_
        refine lv_aload_n hx hb dX2_copyFrom_240 rfl (lv_at hl 2 rfl) ?_
        refine tk_get (ci := 2) (C := RX2) (T := TX2) (N := 20) (sp := (9, 40, 10, 0)) hx hb htl inX2 hown hK hG ht_a1 (by decide) tk_no rfl 19 (by decide) (htl _ mw_77) (fun _ h9 => h9) rfl dX2_copyFrom_241 (fun v9 hf423 hV9 => ?_)
        obtain ⟨rfl, ht_ld40rg1⟩ := hV9
        have ht_ld40rg1 : t (ld (40 + rg1)) = (10, 0, rg1) := ht_ld40rg1
        refine fx_top (v := .ref (ld (40 + rg1))) rfl ?_
        obtain ⟨v9, hf424, hV9⟩ := tk_peek (ci := 9) (C := RX9) (T := TX9) (N := 11) (sp := (0, (-1), 7, 0)) hG ht_ld40rg1 (by decide) tk_no rfl 5 (by decide) rfl
        obtain ⟨v425, rfl, ha_v425, hb_v425⟩ := hV9
        refine tk_Vv (As := [.ref (ld (40 + rg1))]) (rest := []) (ci := 9) ⟨hx, hb, hml, hown, hts⟩ hK hG hZ hS (k_X9_copyFrom l D cy ld t rg0 rg1 (ld (40 + rg0)) (ld (40 + rg1)) v425 ht_ld40rg0 ht_ld40rg1 (by omega) (by omega) (by omega)) hf424 ⟨callB_of 1 hts (wl_in mw_821) rfl rfl rfl (htl _ mw_76) (htl _ mw_1713) hd_yX9_copyFrom ⟨(Nat.le_of_ble_eq_true rfl), (Nat.le_of_ble_eq_true rfl)⟩, htl _ mw_819, htl _ mw_820⟩ ht_ld40rg0 (by decide) tk_no rfl (tk_w.pick [1, 5] rfl) rfl hl.1 rfl (Nat.le_of_ble_eq_true rfl) dX2_copyFrom_244 ⟨(Nat.le_of_ble_eq_true rfl), (Nat.le_of_ble_eq_true rfl)⟩ (fun H locs hpo hG hS hq9 => ?_)
        have hf1 := hf1.call hq9 (tk_w.no ht_a1 (by intro q hq h1 h2 h3; simp only [List.mem_cons, List.not_mem_nil, or_false] at hq; rcases hq with rfl | rfl <;> (dsimp only at h1 h2 h3; omega)))
        have hf3 := hf3.call hq9 (tk_w.no ht_a0 (by intro q hq h1 h2 h3; simp only [List.mem_cons, List.not_mem_nil, or_false] at hq; rcases hq with rfl | rfl <;> (dsimp only at h1 h2 h3; omega)))
        have hf20 := hf20.call hq9 (tk_w.no ht_a1 (by intro q hq h1 h2 h3; simp only [List.mem_cons, List.not_mem_nil, or_false] at hq; rcases hq with rfl | rfl <;> (dsimp only at h1 h2 h3; omega)))
        have hf22 := hf22.call hq9 (tk_w.no ht_a0 (by intro q hq h1 h2 h3; simp only [List.mem_cons, List.not_mem_nil, or_false] at hq; rcases hq with rfl | rfl <;> (dsimp only at h1 h2 h3; omega)))
        have hf34 := hf34.call hq9 (tk_w.no ht_a1 (by intro q hq h1 h2 h3; simp only [List.mem_cons, List.not_mem_nil, or_false] at hq; rcases hq with rfl | rfl <;> (dsimp only at h1 h2 h3; omega)))
        have hf36 := hf36.call hq9 (tk_w.no ht_a0 (by intro q hq h1 h2 h3; simp only [List.mem_cons, List.not_mem_nil, or_false] at hq; rcases hq with rfl | rfl <;> (dsimp only at h1 h2 h3; omega)))
        have hf53 := hf53.call hq9 (tk_w.no ht_a1 (by intro q hq h1 h2 h3; simp only [List.mem_cons, List.not_mem_nil, or_false] at hq; rcases hq with rfl | rfl <;> (dsimp only at h1 h2 h3; omega)))
        have hf55 := hf55.call hq9 (tk_w.no ht_a0 (by intro q hq h1 h2 h3; simp only [List.mem_cons, List.not_mem_nil, or_false] at hq; rcases hq with rfl | rfl <;> (dsimp only at h1 h2 h3; omega)))
        have hf64 := hf64.call hq9 (tk_w.no ht_a1 (by intro q hq h1 h2 h3; simp only [List.mem_cons, List.not_mem_nil, or_false] at hq; rcases hq with rfl | rfl <;> (dsimp only at h1 h2 h3; omega)))
        have hf66 := hf66.call hq9 (tk_w.no ht_a0 (by intro q hq h1 h2 h3; simp only [List.mem_cons, List.not_mem_nil, or_false] at hq; rcases hq with rfl | rfl <;> (dsimp only at h1 h2 h3; omega)))
        have hf406 := hf406.call hq9 (tk_w.no ht_a1 (by intro q hq h1 h2 h3; simp only [List.mem_cons, List.not_mem_nil, or_false] at hq; rcases hq with rfl | rfl <;> (dsimp only at h1 h2 h3; omega)))
        have hf408 := hf408.call hq9 (tk_w.no ht_a0 (by intro q hq h1 h2 h3; simp only [List.mem_cons, List.not_mem_nil, or_false] at hq; rcases hq with rfl | rfl <;> (dsimp only at h1 h2 h3; omega)))
        have hf424 := hf424.call hq9 (tk_w.no ht_ld40rg1 (by intro q hq h1 h2 h3; simp only [List.mem_cons, List.not_mem_nil, or_false] at hq; rcases hq with rfl | rfl <;> (dsimp only at h1 h2 h3; omega)))
        have hf427 := hpo
        exact tk_vret hx hb hr hlocks trivial hG hS dX2_copyFrom_247
      · have hc391 : ¬ (6 ≤ v68.toInt) := fun h9 => c9 ((fi_le (by decide) rfl).mpr h9)
        refine lv_aload_n hx hb dX2_copyFrom_186 rfl (lv_at hl 1 rfl) ?_
        refine tk_get (ci := 2) (C := RX2) (T := TX2) (N := 20) (sp := (1, 28, 6, 0)) hx hb htl inX2 hown hK hG ht_a0 (by decide) tk_no rfl 14 (by decide) (htl _ mw_70) (fun _ h9 => h9) rfl dX2_copyFrom_187 (fun v9 hf428 hV9 => ?_)
        obtain ⟨b429, rfl, ht_b429⟩ := hV9
        have ht_b429 : t b429 = (28, 6, rg0) := ht_b429
        refine lv_iload_n hx hb dX2_copyFrom_190 rfl (lv_at hl 0 rfl) ?_
        refine lv_aload_n hx hb dX2_copyFrom_191 rfl (lv_at hl 2 rfl) ?_
        refine tk_get (ci := 2) (C := RX2) (T := TX2) (N := 20) (sp := (1, 28, 6, 0)) hx hb htl inX2 hown hK hG ht_a1 (by decide) tk_no rfl 14 (by decide) (htl _ mw_70) (fun _ h9 => h9) rfl dX2_copyFrom_192 (fun v9 hf430 hV9 => ?_)
        obtain ⟨b431, rfl, ht_b431⟩ := hV9
        have ht_b431 : t b431 = (28, 6, rg1) := ht_b431
        refine lv_iload_n hx hb dX2_copyFrom_195 rfl (lv_at hl 0 rfl) ?_
        refine tk_aald hx hb hK hG 5 rfl rfl ht_b431 (by decide) (fun _ h => h) tk_no rfl (by omega) (by omega) dX2_copyFrom_196 (fun o432 ht_o432 => ?_)
        have hj438 : ∀ (H : Heap) (locs : List Loc), tk_G D cy ld t [] H → va_S (tk_w t [(3, rg0, rg0), (20, rg0, rg0), (21, rg0, rg0), (24, rg0, rg0), (28, rg0, rg0), (10, rg0, rg0)]) s.heap H locs → tk_f D H a1 2 0 (.int v2) → tk_f D H a0 2 0 (.int v2) → tk_f D H a1 2 4 (.int v21) → tk_f D H a0 2 4 (.int v21) → tk_f D H a1 2 7 (.int v35) → tk_f D H a0 2 7 (.int v35) → tk_f D H a1 2 11 (.int v54) → tk_f D H a0 2 11 (.int v54) → tk_f D H a1 2 13 (.int v65) → tk_f D H a0 2 13 (.int v65) → ∀ ls : Array Slot, lv_has ls 3 [(2, .int v68), (0, .ref a0), (1, .ref a1)] → W p l e ({ frames := 5, cells := 0, slots := 0, locals := 280 }) s m args below meth c H locs 0 0 (MQ below (tv D cy ld t [] (fun H => True) (tk_w t [(3, rg0, rg0), (20, rg0, rg0), (21, rg0, rg0), (24, rg0, rg0), (28, rg0, rg0), (10, rg0, rg0)])) args s 0 0 (tk_w t [(3, rg0, rg0), (20, rg0, rg0), (21, rg0, rg0), (24, rg0, rg0), (28, rg0, rg0), (10, rg0, rg0)])) (F0 m 198 ls []) := by
          intro H locs hG hS hf1 hf3 hf20 hf22 hf34 hf36 hf53 hf55 hf64 hf66 ls hl
          obtain ⟨v439, h_v439, e_v439⟩ := tk_inc v68 1 (by decide) (by omega) (by omega)
          refine lv_iinc (v := v439) (lv' := [(2, .int v439), (0, .ref a0), (1, .ref a1)]) hx hb dX2_copyFrom_198 hl (k := 0) rfl e_v439 (by decide) rfl (fun ls hl => ?_)
          refine lv_goto (tgt := 180) hx hb dX2_copyFrom_201 (by decide) ?_
          exact ih v439 _ _ (by omega) (by omega) (by omega) hG hS hf1 hf3 hf20 hf22 hf34 hf36 hf53 hf55 hf64 hf66 _ (lv_sub hl [0, 1, 2] rfl)
        rcases o432 with _ | b433
        · refine fx_top (v := .null) rfl ?_
          refine tk_aastN hx hb hK hG hS 5 rfl ht_b429 (by decide) (fun _ => Iff.rfl) tk_no rfl (by omega) (by omega) (fun _ h => by cases h) (tk_w.of ht_b429 (by decide) (List.mem_of_getElem? (i := 4) rfl) (Nat.le_refl _) (Nat.le_refl _)) dX2_copyFrom_197 (fun H locs hG hS hq9 => ?_)
          have hf1 := hf1.kept (hq9 _ (tk_ne ht_a1 ht_b429 (Or.inl (by decide))))
          have hf3 := hf3.kept (hq9 _ (tk_ne ht_a0 ht_b429 (Or.inl (by decide))))
          have hf20 := hf20.kept (hq9 _ (tk_ne ht_a1 ht_b429 (Or.inl (by decide))))
          have hf22 := hf22.kept (hq9 _ (tk_ne ht_a0 ht_b429 (Or.inl (by decide))))
          have hf34 := hf34.kept (hq9 _ (tk_ne ht_a1 ht_b429 (Or.inl (by decide))))
          have hf36 := hf36.kept (hq9 _ (tk_ne ht_a0 ht_b429 (Or.inl (by decide))))
          have hf53 := hf53.kept (hq9 _ (tk_ne ht_a1 ht_b429 (Or.inl (by decide))))
          have hf55 := hf55.kept (hq9 _ (tk_ne ht_a0 ht_b429 (Or.inl (by decide))))
          have hf64 := hf64.kept (hq9 _ (tk_ne ht_a1 ht_b429 (Or.inl (by decide))))
          have hf66 := hf66.kept (hq9 _ (tk_ne ht_a0 ht_b429 (Or.inl (by decide))))
          exact hj438 _ _ hG hS hf1 hf3 hf20 hf22 hf34 hf36 hf53 hf55 hf64 hf66 _ (lv_sub hl [0, 1, 2] rfl)
        · obtain ⟨n_b433, r_b433, ht_b433⟩ := ht_o432 b433 rfl
          refine fx_top (v := .ref b433) rfl ?_
          refine tk_aast (ci := 7) hx hb hK hG hS 5 rfl ht_b429 (by decide) (fun _ => Iff.rfl) tk_no ht_b433 (by decide) tk_no rfl rfl (by omega) (by omega) (fun _ h => by cases h; exact ⟨_, _, ht_b433⟩) (tk_w.of ht_b429 (by decide) (List.mem_of_getElem? (i := 4) rfl) (Nat.le_refl _) (Nat.le_refl _)) dX2_copyFrom_197 (fun H locs hG hS hq9 => ?_)
          have hf1 := hf1.kept (hq9 _ (tk_ne ht_a1 ht_b429 (Or.inl (by decide))))
          have hf3 := hf3.kept (hq9 _ (tk_ne ht_a0 ht_b429 (Or.inl (by decide))))
          have hf20 := hf20.kept (hq9 _ (tk_ne ht_a1 ht_b429 (Or.inl (by decide))))
          have hf22 := hf22.kept (hq9 _ (tk_ne ht_a0 ht_b429 (Or.inl (by decide))))
          have hf34 := hf34.kept (hq9 _ (tk_ne ht_a1 ht_b429 (Or.inl (by decide))))
          have hf36 := hf36.kept (hq9 _ (tk_ne ht_a0 ht_b429 (Or.inl (by decide))))
          have hf53 := hf53.kept (hq9 _ (tk_ne ht_a1 ht_b429 (Or.inl (by decide))))
          have hf55 := hf55.kept (hq9 _ (tk_ne ht_a0 ht_b429 (Or.inl (by decide))))
          have hf64 := hf64.kept (hq9 _ (tk_ne ht_a1 ht_b429 (Or.inl (by decide))))
          have hf66 := hf66.kept (hq9 _ (tk_ne ht_a0 ht_b429 (Or.inl (by decide))))
          exact hj438 _ _ hG hS hf1 hf3 hf20 hf22 hf34 hf36 hf53 hf55 hf64 hf66 _ (lv_sub hl [0, 1, 2] rfl)
  have hk_0 : (0 : Int32).toInt = 0 := by decide
  exact hl390 7 0 _ _ (by omega) (by omega) (by omega) hG hS hf1 hf3 hf20 hf22 hf34 hf36 hf53 hf55 hf64 hf66 _ (lv_sub hl [0, 1, 2] rfl)
