set_option maxHeartbeats 4000000 in
set_option maxRecDepth 100000 in
theorem k_X12_end_x (l : Launch) (D : va_G) (cy : Nat → ClassId) (ld : Nat → Nat) (t : tk_T) (a0 : Nat) (p1 : Int32) (g0 : Int32) (g15 : Int32) (ht_a0 : t a0 = (13, 0, 0)) (hp_0 : 0 ≤ g0.toInt) (hp_1 : g0.toInt ≤ 400) (hp_2 : (-2147483648) ≤ g15.toInt) (hp_3 : g15.toInt ≤ 2147483647) : Met l yX12_end (wl yX12_end cX12_end 2 (some .int)) ({ frames := 4, cells := 0, slots := 0, locals := 210 }) (tp D cy ld t [] [.ref a0, .int p1] (fun H => tk_f D H a0 12 13 (.int g0) ∧ tk_f D H a0 12 15 (.int g15))) (ti D cy ld t [] (fun r H => (0 ≤ p1.toInt → 0 ≤ g0.toInt + (-1) * p1.toInt → (-1) * p1.toInt + r.toInt = 0) ∧ (p1.toInt ≤ (-1) → r.toInt + 1 = 0) ∧ (0 ≤ (-1) * g0.toInt + p1.toInt + (-1) → r.toInt + 1 = 0) ∧ tk_f D H a0 12 15 (.int g15) ∧ (∃ n9 : Int32, tk_f D H a0 12 13 (.int n9) ∧ (0 ≤ p1.toInt → 0 ≤ g0.toInt + (-1) * p1.toInt → n9.toInt + (-1) * p1.toInt = 0) ∧ (p1.toInt ≤ (-1) → (-1) * g0.toInt + n9.toInt = 0) ∧ (0 ≤ (-1) * g0.toInt + p1.toInt + (-1) → (-1) * g0.toInt + n9.toInt = 0))) (tk_w t [(13, 0, 0)])) 0 0 (tk_w t [(13, 0, 0)]) := by
  refine tk_met (y := yX12_end) (cc := cX12_end) (maxL := 2) (ret := (some .int)) (av := [.ref a0, .int p1]) _ _ (by decide) (Nat.le_of_ble_eq_true rfl) ?_
  intro p e s m args below meth c hx hb hr hml hts htl hown hlocks hK H locs hH hG hS hB hZ ls hl
  have hown : s.vm.findClass RX12 = some m.cls := hown
  have hl : lv_has ls 2 [(0, .ref a0), (1, .int p1)] := hl
  obtain ⟨hg_0, hg_1⟩ := hB
  have hr_p1 := tk_rng p1
  refine lv_iload_n hx hb dX12_end_0 rfl (lv_at hl 1 rfl) ?_
  refine lv_iconst (v := 0) hx hb dX12_end_1 (by decide) ?_
  refine lv_aload_n hx hb dX12_end_2 rfl (lv_at hl 0 rfl) ?_
  refine tk_getk (ci := 12) (C := RX12) (T := TX12) (N := 17) (sp := (0, 0, 400, 0)) hx hb htl inX12 hown hK hG ht_a0 (by decide) tk_no rfl 13 (by decide) (htl _ mw_422) (fun _ h9 => h9) rfl hg_0 dX12_end_3 ?_
  have hk_0 : (0 : Int32).toInt = 0 := by decide
  refine tk_Si (As := [.int p1, .int 0, .int g0]) (rest := []) ⟨hx, hb, hml, hown, hts⟩ hK hG hZ hS (k_X12_within_x l D cy ld t _ p1 0 g0) trivial ⟨callB_of 3 hts (wl_in mw_262) rfl rfl rfl (htl _ mw_2) (htl _ mw_277) hd_yX12_within ⟨(Nat.le_of_ble_eq_true rfl), (Nat.le_of_ble_eq_true rfl)⟩, htl _ mw_261⟩ (tk_w.pick [] rfl) rfl hl.1 rfl (Nat.le_of_ble_eq_true rfl) dX12_end_6 ⟨(Nat.le_of_ble_eq_true rfl), (Nat.le_of_ble_eq_true rfl)⟩ (fun v1 H locs hpo hG hS hq9 => ?_)
  have hg_0 := hg_0.call hq9 tk_w.nil
  have hg_1 := hg_1.call hq9 tk_w.nil
  obtain ⟨hpo3, hpo4, hpo5, hpo6, hpo7, hpo8⟩ := hpo
  refine lv_if_ne (tgt := 14) hx hb dX12_end_9 (by decide) (fun c9 => ?_) (fun c9 => ?_)
  · have hc9 : ¬ (v1.toInt = 0) := fun h9 => c9 ((fi_eq rfl (show (0 : Int32).toInt = 0 by decide)).mpr h9)
    refine lv_aload_n hx hb dX12_end_14 rfl (lv_at hl 0 rfl) ?_
    refine lv_iload_n hx hb dX12_end_15 rfl (lv_at hl 1 rfl) ?_
    refine tk_put (ci := 12) (v := .int p1) (ty := .int) (C := RX12) (T := TX12) (N := 17) (sp := (0, 0, 400, 0)) hx hb htl inX12 tyX12 tyX12_ok nmX12 hown hK hG hS ht_a0 (by decide) tk_no rfl 13 (by decide) (htl _ mw_422) (fun _ h9 => h9) rfl (tyX12_ok 13 (by decide)) rfl rfl rfl (tk_V0 (by omega) (by omega)) (fun _ h => h) (tk_w.of ht_a0 (by decide) (List.mem_of_getElem? (i := 0) rfl) (Nat.le_refl _) (Nat.le_refl _)) dX12_end_16 (fun H locs hG hS hf10 hq9 hj9 => ?_)
    have hg_1 := hj9 15 _ (by decide) (by decide) hg_1
    refine lv_iload_n hx hb dX12_end_19 rfl (lv_at hl 1 rfl) ?_
    exact tk_iret (v := p1) hx hb hr rfl hlocks (show (0 ≤ p1.toInt → 0 ≤ g0.toInt + (-1) * p1.toInt → (-1) * p1.toInt + p1.toInt = 0) ∧ (p1.toInt ≤ (-1) → p1.toInt + 1 = 0) ∧ (0 ≤ (-1) * g0.toInt + p1.toInt + (-1) → p1.toInt + 1 = 0) ∧ tk_f D H a0 12 15 (.int g15) ∧ (∃ n9 : Int32, tk_f D H a0 12 13 (.int n9) ∧ (0 ≤ p1.toInt → 0 ≤ g0.toInt + (-1) * p1.toInt → n9.toInt + (-1) * p1.toInt = 0) ∧ (p1.toInt ≤ (-1) → (-1) * g0.toInt + n9.toInt = 0) ∧ (0 ≤ (-1) * g0.toInt + p1.toInt + (-1) → (-1) * g0.toInt + n9.toInt = 0)) from ⟨(fun _ _ => by omega), (fun _ => by omega), (fun _ => by omega), hg_1, ⟨p1, hf10, (fun _ _ => by omega), (fun _ => by omega), (fun _ => by omega)⟩⟩) hG hS dX12_end_20
  · have hc9 : v1.toInt = 0 := (fi_eq rfl (show (0 : Int32).toInt = 0 by decide)).mp c9
    refine lv_iconst (v := (-1)) hx hb dX12_end_12 (by decide) ?_
    have hk_m1 : ((-1) : Int32).toInt = (-1) := by decide
    exact tk_iret (v := (-1)) hx hb hr rfl hlocks (show (0 ≤ p1.toInt → 0 ≤ g0.toInt + (-1) * p1.toInt → (-1) * p1.toInt + ((-1) : Int32).toInt = 0) ∧ (p1.toInt ≤ (-1) → ((-1) : Int32).toInt + 1 = 0) ∧ (0 ≤ (-1) * g0.toInt + p1.toInt + (-1) → ((-1) : Int32).toInt + 1 = 0) ∧ tk_f D H a0 12 15 (.int g15) ∧ (∃ n9 : Int32, tk_f D H a0 12 13 (.int n9) ∧ (0 ≤ p1.toInt → 0 ≤ g0.toInt + (-1) * p1.toInt → n9.toInt + (-1) * p1.toInt = 0) ∧ (p1.toInt ≤ (-1) → (-1) * g0.toInt + n9.toInt = 0) ∧ (0 ≤ (-1) * g0.toInt + p1.toInt + (-1) → (-1) * g0.toInt + n9.toInt = 0)) from ⟨(fun _ _ => by omega), (fun _ => by omega), (fun _ => by omega), hg_1, ⟨g0, hg_0, (fun _ _ => by omega), (fun _ => by omega), (fun _ => by omega)⟩⟩) hG hS dX12_end_13
set_option maxHeartbeats 4000000 in
set_option maxRecDepth 100000 in
theorem k_X12_row_x (l : Launch) (D : va_G) (cy : Nat → ClassId) (ld : Nat → Nat) (t : tk_T) (a0 : Nat) (g0 : Int32) (g15 : Int32) (n0 n1 n2 n3 : Int32) (fh fs fk q1 q2 q3 : Nat → Int32) (ft : Nat → Int32) (ht_a0 : t a0 = (13, 0, 0)) (ht_ld20 : t (ld 20) = (3, 0, 0)) (ht_ld70 : t (ld 70) = (32, 8, 0)) (ht_ld80 : t (ld 80) = (33, 10, 0)) (ht_ld90 : t (ld 90) = (34, 10, 0)) (ht_ld100 : t (ld 100) = (35, 10, 0)) (ht_ld110 : t (ld 110) = (36, 10, 0)) (ht_ld120 : t (ld 120) = (37, 10, 0)) (ht_ld26 : t (ld 26) = (20, 400, 9)) (hp_0 : 0 ≤ n0.toInt) (hp_1 : n0.toInt ≤ 8) (hp_2 : 0 ≤ n1.toInt) (hp_3 : n1.toInt ≤ 10) (hp_4 : 0 ≤ n2.toInt) (hp_5 : n2.toInt ≤ 10) (hp_6 : 0 ≤ n3.toInt) (hp_7 : n3.toInt ≤ 8) (hp_8 : 0 ≤ g0.toInt) (hp_9 : g0.toInt ≤ 400) (hp_10 : (-2147483648) ≤ g15.toInt) (hp_11 : g15.toInt ≤ 2147483647) : Met l yX12_row (wl yX12_row cX12_row 4 (some .int)) ({ frames := 5, cells := 0, slots := 0, locals := 280 }) (tp D cy ld t [] [.ref a0] (fun H => tk_f D H a0 12 13 (.int g0) ∧ tk_f D H a0 12 15 (.int g15) ∧ jC D ld (ld 20) 0 n0 n1 n2 n3 fh fs fk q1 q2 q3 H ∧ tk_c H (ld 26) 400 ft)) (ti D cy ld t [] (fun r H => (g0.toInt ≤ 0 → r.toInt + 6 = 0) ∧ (1 ≤ g0.toInt → 0 ≤ r.toInt) ∧ (∃ n9 : Int32, tk_f D H a0 12 13 (.int n9) ∧ n9.toInt = 0) ∧ (g0.toInt ≤ 0 → jC D ld (ld 20) 0 n0 n1 n2 n3 fh fs fk q1 q2 q3 H ∧ tk_f D H a0 12 15 (.int g15)) ∧ (1 ≤ g0.toInt → ∃ (n9 c9 : Int32) (f9 f8 : Nat → Int32), jC D ld (ld 20) 0 n0 n9 n2 n3 fh f9 f8 q1 q2 q3 H ∧ tk_f D H a0 12 15 (.int c9) ∧ rw9 ft g0.toInt n1.toInt fs fk ((g0.toInt.toNat + 1) / 2) = (n9.toInt, r.toInt, c9.toInt, f9, f8)) ∧ tk_c H (ld 26) 400 ft) (tk_w t [(13, 0, 0), (33, 0, 0), (34, 0, 0), (3, 0, 0), (20, 0, 0)])) 0 0 (tk_w t [(13, 0, 0), (33, 0, 0), (34, 0, 0), (3, 0, 0), (20, 0, 0)]) := by
  refine tk_met (y := yX12_row) (cc := cX12_row) (maxL := 4) (ret := (some .int)) (av := [.ref a0]) _ _ (by decide) (Nat.le_of_ble_eq_true rfl) ?_
  intro p e s m args below meth c hx hb hr hml hts htl hown hlocks hK H locs hH hG hS hB hZ ls hl
  have hown : s.vm.findClass RX12 = some m.cls := hown
  have hl : lv_has ls 4 [(0, .ref a0)] := hl
  obtain ⟨hg_0, hg_1, ⟨hj0_0, hj0_1, hj0_2, hj0_3, hj0_4, hj0_5, hj0_6, hj0_7, hj0_8, hj0_9⟩, hj1_0⟩ := hB
  refine lv_aload_n hx hb dX12_row_0 rfl (lv_at hl 0 rfl) ?_
  refine tk_getk (ci := 12) (C := RX12) (T := TX12) (N := 17) (sp := (0, 0, 400, 0)) hx hb htl inX12 hown hK hG ht_a0 (by decide) tk_no rfl 13 (by decide) (htl _ mw_422) (fun _ h9 => h9) rfl hg_0 dX12_row_1 ?_
  refine lv_if_ne (tgt := 14) hx hb dX12_row_4 (by decide) (fun c9 => ?_) (fun c9 => ?_)
  · have hc1 : ¬ (g0.toInt = 0) := fun h9 => c9 ((fi_eq rfl (show (0 : Int32).toInt = 0 by decide)).mpr h9)
    refine lv_iconst (v := 0) hx hb dX12_row_14 (by decide) ?_
    refine lv_istore_n (lv' := [(1, .int 0), (0, .ref a0)]) hx hb dX12_row_15 rfl hl (by decide) rfl (fun ls hl => ?_)
    refine lv_iconst (v := 0) hx hb dX12_row_16 (by decide) ?_
    refine lv_istore_n (lv' := [(2, .int 0), (1, .int 0), (0, .ref a0)]) hx hb dX12_row_17 rfl hl (by decide) rfl (fun ls hl => ?_)
    refine lv_iconst (v := 0) hx hb dX12_row_18 (by decide) ?_
    refine lv_istore_n (lv' := [(3, .int 0), (2, .int 0), (1, .int 0), (0, .ref a0)]) hx hb dX12_row_19 rfl hl (by decide) rfl (fun ls hl => ?_)
    have hl473 : ∀ (N_l473 : Nat) (v53 : Int32) (v54 : Int32) (v55 : Int32) (v56 : Int32) (f57 : Nat → Int32) (f58 : Nat → Int32) (H : Heap) (locs : List Loc), v56.toInt ≤ 10 → 0 ≤ v53.toInt + (-1) * v54.toInt → 0 ≤ v53.toInt + (-1) * v55.toInt → 0 ≤ (-1) * v55.toInt + v56.toInt → 0 ≤ v55.toInt → 0 ≤ v54.toInt → 0 ≤ g0.toInt + (-1) * v53.toInt + 1 → v54.toInt ≤ 400 → (-1) * v53.toInt + 401 < (N_l473 : Int) → tk_G D cy ld t [] H → va_S (tk_w t [(13, 0, 0), (33, 0, 0), (34, 0, 0), (3, 0, 0), (20, 0, 0)]) s.heap H locs → tk_f D H a0 12 13 (.int g0) → tk_f D H a0 12 15 (.int g15) → tk_f D H (ld 20) 2 0 (.int n0) → tk_f D H (ld 20) 2 4 (.int v56) → tk_f D H (ld 20) 2 7 (.int n2) → tk_f D H (ld 20) 2 11 (.int n3) → tk_c H (ld 70) 8 fh → tk_c H (ld 80) 10 f57 → tk_c H (ld 90) 10 f58 → tk_c H (ld 100) 10 q1 → tk_c H (ld 110) 10 q2 → tk_c H (ld 120) 10 q3 → tk_c H (ld 26) 400 ft → (∃ k : Nat, v53.toInt = 2 * (k : Int) ∧ rw9 ft g0.toInt n1.toInt fs fk k = (v56.toInt, v55.toInt, v54.toInt, f57, f58)) → ∀ ls : Array Slot, lv_has ls 4 [(3, .int v53), (2, .int v54), (1, .int v55), (0, .ref a0)] → W p l e ({ frames := 5, cells := 0, slots := 0, locals := 280 }) s m args below meth c H locs 0 0 (MQ below (ti D cy ld t [] (fun r H => (g0.toInt ≤ 0 → r.toInt + 6 = 0) ∧ (1 ≤ g0.toInt → 0 ≤ r.toInt) ∧ (∃ n9 : Int32, tk_f D H a0 12 13 (.int n9) ∧ n9.toInt = 0) ∧ (g0.toInt ≤ 0 → jC D ld (ld 20) 0 n0 n1 n2 n3 fh fs fk q1 q2 q3 H ∧ tk_f D H a0 12 15 (.int g15)) ∧ (1 ≤ g0.toInt → ∃ (n9 c9 : Int32) (f9 f8 : Nat → Int32), jC D ld (ld 20) 0 n0 n9 n2 n3 fh f9 f8 q1 q2 q3 H ∧ tk_f D H a0 12 15 (.int c9) ∧ rw9 ft g0.toInt n1.toInt fs fk ((g0.toInt.toNat + 1) / 2) = (n9.toInt, r.toInt, c9.toInt, f9, f8)) ∧ tk_c H (ld 26) 400 ft) (tk_w t [(13, 0, 0), (33, 0, 0), (34, 0, 0), (3, 0, 0), (20, 0, 0)])) args s 0 0 (tk_w t [(13, 0, 0), (33, 0, 0), (34, 0, 0), (3, 0, 0), (20, 0, 0)])) (F0 m 20 ls []) := by
      intro N_l473
      induction N_l473 with
      | zero => intro v53 v54 v55 v56 f57 f58 H locs hq0_l473 hq1_l473 hq2_l473 hq3_l473 hq4_l473 hq5_l473 hq6_l473 hq7_l473 hm_l473 hG hS hg_0 hg_1 hj0_0 hj0_1 hj0_2 hj0_3 hj0_4 hj0_5 hj0_6 hj0_7 hj0_8 hj0_9 hj1_0 hrw ls hl; exfalso; omega
      | succ N_l473 ih_l473 =>
        intro v53 v54 v55 v56 f57 f58 H locs hq0_l473 hq1_l473 hq2_l473 hq3_l473 hq4_l473 hq5_l473 hq6_l473 hq7_l473 hm_l473 hG hS hg_0 hg_1 hj0_0 hj0_1 hj0_2 hj0_3 hj0_4 hj0_5 hj0_6 hj0_7 hj0_8 hj0_9 hj1_0 hrw ls hl
        refine lv_iload_n hx hb dX12_row_20 rfl (lv_at hl 0 rfl) ?_
        refine lv_aload_n hx hb dX12_row_21 rfl (lv_at hl 3 rfl) ?_
        refine tk_getk (ci := 12) (C := RX12) (T := TX12) (N := 17) (sp := (0, 0, 400, 0)) hx hb htl inX12 hown hK hG ht_a0 (by decide) tk_no rfl 13 (by decide) (htl _ mw_422) (fun _ h9 => h9) rfl hg_0 dX12_row_22 ?_
        refine lv_icmp_ge (tgt := 77) hx hb dX12_row_25 (by decide) (fun c9 => ?_) (fun c9 => ?_)
        · have hc474 : g0.toInt ≤ v53.toInt := (fi_le rfl rfl).mp c9
          refine lv_aload_n hx hb dX12_row_77 rfl (lv_at hl 3 rfl) ?_
          refine lv_iconst (v := 0) hx hb dX12_row_78 (by decide) ?_
          refine tk_put (ci := 12) (v := .int 0) (ty := .int) (C := RX12) (T := TX12) (N := 17) (sp := (0, 0, 400, 0)) hx hb htl inX12 tyX12 tyX12_ok nmX12 hown hK hG hS ht_a0 (by decide) tk_no rfl 13 (by decide) (htl _ mw_422) (fun _ h9 => h9) rfl (tyX12_ok 13 (by decide)) rfl rfl rfl (tk_V0 (by decide) (by decide)) (fun _ h => h) (tk_w.of ht_a0 (by decide) (List.mem_of_getElem? (i := 0) rfl) (Nat.le_refl _) (Nat.le_refl _)) dX12_row_79 (fun H locs hG hS hf475 hq9 hj9 => ?_)
          have hg_1 := hj9 15 _ (by decide) (by decide) hg_1
          have hj0_0 := hj0_0.kept (hq9 _ (tk_ne ht_ld20 ht_a0 (Or.inl (by decide))))
          have hj0_1 := hj0_1.kept (hq9 _ (tk_ne ht_ld20 ht_a0 (Or.inl (by decide))))
          have hj0_2 := hj0_2.kept (hq9 _ (tk_ne ht_ld20 ht_a0 (Or.inl (by decide))))
          have hj0_3 := hj0_3.kept (hq9 _ (tk_ne ht_ld20 ht_a0 (Or.inl (by decide))))
          have hj0_4 := hj0_4.kept (hq9 _ (tk_ne ht_ld70 ht_a0 (Or.inl (by decide))))
          have hj0_5 := hj0_5.kept (hq9 _ (tk_ne ht_ld80 ht_a0 (Or.inl (by decide))))
          have hj0_6 := hj0_6.kept (hq9 _ (tk_ne ht_ld90 ht_a0 (Or.inl (by decide))))
          have hj0_7 := hj0_7.kept (hq9 _ (tk_ne ht_ld100 ht_a0 (Or.inl (by decide))))
          have hj0_8 := hj0_8.kept (hq9 _ (tk_ne ht_ld110 ht_a0 (Or.inl (by decide))))
          have hj0_9 := hj0_9.kept (hq9 _ (tk_ne ht_ld120 ht_a0 (Or.inl (by decide))))
          have hj1_0 := hj1_0.kept (hq9 _ (tk_ne ht_ld26 ht_a0 (Or.inl (by decide))))
          refine lv_aload_n hx hb dX12_row_82 rfl (lv_at hl 3 rfl) ?_
          refine lv_iload_n hx hb dX12_row_83 rfl (lv_at hl 1 rfl) ?_
          refine tk_put (ci := 12) (v := .int v54) (ty := .int) (C := RX12) (T := TX12) (N := 17) (sp := (0, (-2147483648), 2147483647, 0)) hx hb htl inX12 tyX12 tyX12_ok nmX12 hown hK hG hS ht_a0 (by decide) tk_no rfl 15 (by decide) (htl _ mw_448) (fun _ h9 => h9) rfl (tyX12_ok 15 (by decide)) rfl rfl rfl (tk_V0 (tk_rng _).1 (tk_rng _).2) (fun _ h => h) (tk_w.of ht_a0 (by decide) (List.mem_of_getElem? (i := 0) rfl) (Nat.le_refl _) (Nat.le_refl _)) dX12_row_84 (fun H locs hG hS hf477 hq9 hj9 => ?_)
          have hj0_0 := hj0_0.kept (hq9 _ (tk_ne ht_ld20 ht_a0 (Or.inl (by decide))))
          have hj0_1 := hj0_1.kept (hq9 _ (tk_ne ht_ld20 ht_a0 (Or.inl (by decide))))
          have hj0_2 := hj0_2.kept (hq9 _ (tk_ne ht_ld20 ht_a0 (Or.inl (by decide))))
          have hj0_3 := hj0_3.kept (hq9 _ (tk_ne ht_ld20 ht_a0 (Or.inl (by decide))))
          have hj0_4 := hj0_4.kept (hq9 _ (tk_ne ht_ld70 ht_a0 (Or.inl (by decide))))
          have hj0_5 := hj0_5.kept (hq9 _ (tk_ne ht_ld80 ht_a0 (Or.inl (by decide))))
          have hj0_6 := hj0_6.kept (hq9 _ (tk_ne ht_ld90 ht_a0 (Or.inl (by decide))))
          have hj0_7 := hj0_7.kept (hq9 _ (tk_ne ht_ld100 ht_a0 (Or.inl (by decide))))
          have hj0_8 := hj0_8.kept (hq9 _ (tk_ne ht_ld110 ht_a0 (Or.inl (by decide))))
          have hj0_9 := hj0_9.kept (hq9 _ (tk_ne ht_ld120 ht_a0 (Or.inl (by decide))))
          have hj1_0 := hj1_0.kept (hq9 _ (tk_ne ht_ld26 ht_a0 (Or.inl (by decide))))
          have hf475 := hj9 13 _ (by decide) (by decide) hf475
          refine lv_aload_n hx hb dX12_row_87 rfl (lv_at hl 3 rfl) ?_
          refine lv_iload_n hx hb dX12_row_88 rfl (lv_at hl 2 rfl) ?_
          have hk_0 : (0 : Int32).toInt = 0 := by decide
          refine tk_Vi (As := [.int v55]) (rest := []) (ci := 12) ⟨hx, hb, hml, hown, hts⟩ hK hG hZ hS (k_X12_accept_x l D cy ld t a0 v55 0 v54 ht_a0 (by omega) (by omega) (by omega) (by omega)) ⟨hf475, hf477⟩ ⟨callB_of 1 hts (wl_in mw_281) rfl rfl rfl (htl _ mw_2) (htl _ mw_278) hd_yX12_accept ⟨(Nat.le_of_ble_eq_true rfl), (Nat.le_of_ble_eq_true rfl)⟩, htl _ mw_279, htl _ mw_280⟩ ht_a0 (by decide) tk_no rfl (tk_w.pick [0] rfl) rfl hl.1 rfl (Nat.le_of_ble_eq_true rfl) dX12_row_89 ⟨(Nat.le_of_ble_eq_true rfl), (Nat.le_of_ble_eq_true rfl)⟩ (fun v479 H locs hpo hG hS hq9 => ?_)
          have hj0_0 := hj0_0.call hq9 (tk_w.no ht_ld20 (by decide))
          have hj0_1 := hj0_1.call hq9 (tk_w.no ht_ld20 (by decide))
          have hj0_2 := hj0_2.call hq9 (tk_w.no ht_ld20 (by decide))
          have hj0_3 := hj0_3.call hq9 (tk_w.no ht_ld20 (by decide))
          have hj0_4 := hj0_4.call hq9 (tk_w.no ht_ld70 (by decide))
          have hj0_5 := hj0_5.call hq9 (tk_w.no ht_ld80 (by decide))
          have hj0_6 := hj0_6.call hq9 (tk_w.no ht_ld90 (by decide))
          have hj0_7 := hj0_7.call hq9 (tk_w.no ht_ld100 (by decide))
          have hj0_8 := hj0_8.call hq9 (tk_w.no ht_ld110 (by decide))
          have hj0_9 := hj0_9.call hq9 (tk_w.no ht_ld120 (by decide))
          have hj1_0 := hj1_0.call hq9 (tk_w.no ht_ld26 (by decide))
          obtain ⟨hpo481, hf482, hf483⟩ := hpo
          have hk_0 : (0 : Int32).toInt = 0 := by decide
          exact tk_iret (v := v479) hx hb hr rfl hlocks (show (g0.toInt ≤ 0 → v479.toInt + 6 = 0) ∧ (1 ≤ g0.toInt → 0 ≤ v479.toInt) ∧ (∃ n9 : Int32, tk_f D H a0 12 13 (.int n9) ∧ n9.toInt = 0) ∧ (g0.toInt ≤ 0 → jC D ld (ld 20) 0 n0 n1 n2 n3 fh fs fk q1 q2 q3 H ∧ tk_f D H a0 12 15 (.int g15)) ∧ (1 ≤ g0.toInt → ∃ (n9 c9 : Int32) (f9 f8 : Nat → Int32), jC D ld (ld 20) 0 n0 n9 n2 n3 fh f9 f8 q1 q2 q3 H ∧ tk_f D H a0 12 15 (.int c9) ∧ rw9 ft g0.toInt n1.toInt fs fk ((g0.toInt.toNat + 1) / 2) = (n9.toInt, v479.toInt, c9.toInt, f9, f8)) ∧ tk_c H (ld 26) 400 ft from ⟨(fun _ => by omega), (fun _ => by omega), ⟨0, hf482, (by omega)⟩, (fun h9 => (show False by omega).elim), (fun _ => ⟨v56, v54, f57, f58, ⟨hj0_0, hj0_1, hj0_2, hj0_3, hj0_4, hj0_5, hj0_6, hj0_7, hj0_8, hj0_9⟩, hf483, by obtain ⟨k9, hk9, hw9⟩ := hrw; rw [show (g0.toInt.toNat + 1) / 2 = k9 by omega, hw9, show v479.toInt = v55.toInt by omega]⟩), hj1_0⟩) hG hS dX12_row_92
        · have hc474 : ¬ (g0.toInt ≤ v53.toInt) := fun h9 => c9 ((fi_le rfl rfl).mpr h9)
          refine lv_iload_n hx hb dX12_row_28 rfl (lv_at hl 0 rfl) ?_
          refine lv_iconst (v := 1) hx hb dX12_row_29 (by decide) ?_
          refine lv_iadd hx hb dX12_row_30 ?_
          refine tk_add rfl (show (1 : Int32).toInt = 1 by decide) (by omega) (by omega) (fun v484 h_v484 => ?_)
          refine lv_aload_n hx hb dX12_row_31 rfl (lv_at hl 3 rfl) ?_
          refine tk_getk (ci := 12) (C := RX12) (T := TX12) (N := 17) (sp := (0, 0, 400, 0)) hx hb htl inX12 hown hK hG ht_a0 (by decide) tk_no rfl 13 (by decide) (htl _ mw_422) (fun _ h9 => h9) rfl hg_0 dX12_row_32 ?_
          refine lv_icmp_ge (tgt := 68) hx hb dX12_row_35 (by decide) (fun c9 => ?_) (fun c9 => ?_)
          · have hc485 : g0.toInt ≤ v484.toInt := (fi_le rfl rfl).mp c9
            obtain ⟨v486, h_v486, e_v486⟩ := tk_inc v54 1 (by decide) (by omega) (by omega)
            refine lv_iinc (v := v486) (lv' := [(2, .int v486), (3, .int v53), (1, .int v55), (0, .ref a0)]) hx hb dX12_row_68 hl (k := 1) rfl e_v486 (by decide) rfl (fun ls hl => ?_)
            obtain ⟨v487, h_v487, e_v487⟩ := tk_inc v53 2 (by decide) (by omega) (by omega)
            refine lv_iinc (v := v487) (lv' := [(3, .int v487), (2, .int v486), (1, .int v55), (0, .ref a0)]) hx hb dX12_row_71 hl (k := 1) rfl e_v487 (by decide) rfl (fun ls hl => ?_)
            refine lv_goto (tgt := 20) hx hb dX12_row_74 (by decide) ?_
            exact ih_l473 v487 v486 v55 v56 f57 f58 _ _ (by omega) (by omega) (by omega) (by omega) (by omega) (by omega) (by omega) (by omega) (by omega) hG hS hg_0 hg_1 hj0_0 hj0_1 hj0_2 hj0_3 hj0_4 hj0_5 hj0_6 hj0_7 hj0_8 hj0_9 hj1_0 (by obtain ⟨k9, hk9, hw9⟩ := hrw; exact ⟨k9 + 1, by omega, rw9_no hw9 hk9 (by omega) (by omega) (by omega) (by omega)⟩) _ (lv_sub hl [0, 1, 2, 3] rfl)
          · have hc485 : ¬ (g0.toInt ≤ v484.toInt) := fun h9 => c9 ((fi_le rfl rfl).mpr h9)
            refine lv_aload_n hx hb dX12_row_38 rfl (lv_at hl 3 rfl) ?_
            refine tk_get (ci := 12) (C := RX12) (T := TX12) (N := 17) (sp := (8, 20, 3, 0)) hx hb htl inX12 hown hK hG ht_a0 (by decide) tk_no rfl 0 (by decide) (htl _ mw_15) (fun _ h9 => h9) rfl dX12_row_39 (fun v9 hf488 hV9 => ?_)
            obtain ⟨rfl, ht_ld20⟩ := hV9
            have ht_ld20 : t (ld 20) = (3, 0, 0) := ht_ld20
            refine fx_top (v := .ref (ld 20)) rfl ?_
            refine lv_aload_n hx hb dX12_row_42 rfl (lv_at hl 3 rfl) ?_
            refine tk_get (ci := 12) (C := RX12) (T := TX12) (N := 17) (sp := (10, 26, 20, 6409)) hx hb htl inX12 hown hK hG ht_a0 (by decide) tk_no rfl 11 (by decide) (htl _ mw_33) (fun _ h9 => h9) rfl dX12_row_43 (fun v9 hf489 hV9 => ?_)
            obtain ⟨rfl, ht_ld26⟩ := hV9
            have ht_ld26 : t (ld 26) = (20, 400, 9) := ht_ld26
            refine fx_top (v := .ref (ld 26)) rfl ?_
            refine lv_iload_n hx hb dX12_row_46 rfl (lv_at hl 0 rfl) ?_
            refine tk_iald hx hb hK hG ht_ld26 (by decide) (fun _ h => h) tk_no rfl (by omega) (by omega) dX12_row_47 (fun v490 _ hz9 => ?_)
            have hr_v490 := tk_rng v490
            have ev_v490 : v490 = ft v53.toNatClampNeg := hj1_0.at hz9 (by have h9 : v53.toNatClampNeg = v53.toInt.toNat := rfl; omega)
            refine lv_aload_n hx hb dX12_row_48 rfl (lv_at hl 3 rfl) ?_
            refine tk_get (ci := 12) (C := RX12) (T := TX12) (N := 17) (sp := (10, 26, 20, 6409)) hx hb htl inX12 hown hK hG ht_a0 (by decide) tk_no rfl 11 (by decide) (htl _ mw_33) (fun _ h9 => h9) rfl dX12_row_49 (fun v9 hf491 hV9 => ?_)
            obtain ⟨rfl, ht_ld26⟩ := hV9
            have ht_ld26 : t (ld 26) = (20, 400, 9) := ht_ld26
            refine fx_top (v := .ref (ld 26)) rfl ?_
            refine lv_iload_n hx hb dX12_row_52 rfl (lv_at hl 0 rfl) ?_
            refine lv_iconst (v := 1) hx hb dX12_row_53 (by decide) ?_
            refine lv_iadd hx hb dX12_row_54 ?_
            refine tk_add rfl (show (1 : Int32).toInt = 1 by decide) (by omega) (by omega) (fun v492 h_v492 => ?_)
            refine tk_iald hx hb hK hG ht_ld26 (by decide) (fun _ h => h) tk_no rfl (by omega) (by omega) dX12_row_55 (fun v493 _ hz9 => ?_)
            have hr_v493 := tk_rng v493
            have ev_v493 : v493 = ft v492.toNatClampNeg := hj1_0.at hz9 (by have h9 : v492.toNatClampNeg = v492.toInt.toNat := rfl; omega)
            refine tk_Vi (As := [.int v490, .int v493]) (rest := []) (ci := 2) ⟨hx, hb, hml, hown, hts⟩ hK hG hZ hS (k_X2_addVerse_x l D cy ld t (ld 20) v490 v493 n0 v56 n2 n3 fh f57 f58 q1 q2 q3 ht_ld20 ht_ld70 ht_ld80 ht_ld90 ht_ld100 ht_ld110 ht_ld120 (by omega) (by omega) (by omega) (by omega) (by omega) (by omega) (by omega) (by omega)) ⟨hj0_0, hj0_1, hj0_2, hj0_3, hj0_4, hj0_5, hj0_6, hj0_7, hj0_8, hj0_9⟩ ⟨callB_of 2 hts (wl_in mw_332) rfl rfl rfl (htl _ mw_14) (htl _ mw_329) hd_yX2_addVerse ⟨(Nat.le_of_ble_eq_true rfl), (Nat.le_of_ble_eq_true rfl)⟩, htl _ mw_330, htl _ mw_331⟩ ht_ld20 (by decide) tk_no rfl (tk_w.pick [1, 2, 3] rfl) rfl hl.1 rfl (Nat.le_of_ble_eq_true rfl) dX12_row_56 ⟨(Nat.le_of_ble_eq_true rfl), (Nat.le_of_ble_eq_true rfl)⟩ (fun v494 H locs hpo hG hS hq9 => ?_)
            have hg_0 := hg_0.call hq9 (tk_w.no ht_a0 (by decide))
            have hg_1 := hg_1.call hq9 (tk_w.no ht_a0 (by decide))
            have hj0_4 := hj0_4.call hq9 (tk_w.no ht_ld70 (by decide))
            have hj0_7 := hj0_7.call hq9 (tk_w.no ht_ld100 (by decide))
            have hj0_8 := hj0_8.call hq9 (tk_w.no ht_ld110 (by decide))
            have hj0_9 := hj0_9.call hq9 (tk_w.no ht_ld120 (by decide))
            have hj1_0 := hj1_0.call hq9 (tk_w.no ht_ld26 (by decide))
            obtain ⟨hpo496, hpo497, hpo498, hpo499, hpo500, hpo501, hpo502, ⟨v505, ⟨hj503, hj504, hj506, hj507, hj508, hj509, hj510, hj511, hj512, hj513⟩, hpo514, hpo515⟩⟩ := hpo
            have hq_v505 := tk_rng v505
            refine lv_if_lt (tgt := 68) hx hb dX12_row_59 (by decide) (fun c9 => ?_) (fun c9 => ?_)
            · have hc516 : v494.toInt < 0 := (fi_lt rfl (show (0 : Int32).toInt = 0 by decide)).mp c9
              obtain ⟨v517, h_v517, e_v517⟩ := tk_inc v54 1 (by decide) (by omega) (by omega)
              refine lv_iinc (v := v517) (lv' := [(2, .int v517), (3, .int v53), (1, .int v55), (0, .ref a0)]) hx hb dX12_row_68 hl (k := 1) rfl e_v517 (by decide) rfl (fun ls hl => ?_)
              obtain ⟨v518, h_v518, e_v518⟩ := tk_inc v53 2 (by decide) (by omega) (by omega)
              refine lv_iinc (v := v518) (lv' := [(3, .int v518), (2, .int v517), (1, .int v55), (0, .ref a0)]) hx hb dX12_row_71 hl (k := 1) rfl e_v518 (by decide) rfl (fun ls hl => ?_)
              refine lv_goto (tgt := 20) hx hb dX12_row_74 (by decide) ?_
              exact ih_l473 v518 v517 v55 v505 (cif v494 (upd f57 v56.toInt.toNat v490) f57) (cif v494 (upd f58 v56.toInt.toNat v493) f58) _ _ (by omega) (by omega) (by omega) (by omega) (by omega) (by omega) (by omega) (by omega) (by omega) hG hS hg_0 hg_1 hj503 hj504 hj506 hj507 hj508 hj509 hj510 hj511 hj512 hj513 hj1_0 (by obtain ⟨k9, hk9, hw9⟩ := hrw; exact ⟨k9 + 1, by omega, rw9_call hw9 hk9 (by omega) (ev_v490.trans (congrArg ft (by show v53.toInt.toNat = _; omega))) (ev_v493.trans (congrArg ft (by show v492.toInt.toNat = _; omega))) rfl (fun h9 => by omega) (fun h9 => by omega) (fun h9 => by omega) (fun h9 => by omega)⟩) _ (lv_sub hl [0, 1, 2, 3] rfl)
            · have hc516 : ¬ (v494.toInt < 0) := fun h9 => c9 ((fi_lt rfl (show (0 : Int32).toInt = 0 by decide)).mpr h9)
              obtain ⟨v519, h_v519, e_v519⟩ := tk_inc v55 1 (by decide) (by omega) (by omega)
              refine lv_iinc (v := v519) (lv' := [(1, .int v519), (3, .int v53), (2, .int v54), (0, .ref a0)]) hx hb dX12_row_62 hl (k := 2) rfl e_v519 (by decide) rfl (fun ls hl => ?_)
              refine lv_goto (tgt := 71) hx hb dX12_row_65 (by decide) ?_
              obtain ⟨v520, h_v520, e_v520⟩ := tk_inc v53 2 (by decide) (by omega) (by omega)
              refine lv_iinc (v := v520) (lv' := [(3, .int v520), (1, .int v519), (2, .int v54), (0, .ref a0)]) hx hb dX12_row_71 hl (k := 1) rfl e_v520 (by decide) rfl (fun ls hl => ?_)
              refine lv_goto (tgt := 20) hx hb dX12_row_74 (by decide) ?_
              exact ih_l473 v520 v54 v519 v505 (cif v494 (upd f57 v56.toInt.toNat v490) f57) (cif v494 (upd f58 v56.toInt.toNat v493) f58) _ _ (by omega) (by omega) (by omega) (by omega) (by omega) (by omega) (by omega) (by omega) (by omega) hG hS hg_0 hg_1 hj503 hj504 hj506 hj507 hj508 hj509 hj510 hj511 hj512 hj513 hj1_0 (by obtain ⟨k9, hk9, hw9⟩ := hrw; exact ⟨k9 + 1, by omega, rw9_call hw9 hk9 (by omega) (ev_v490.trans (congrArg ft (by show v53.toInt.toNat = _; omega))) (ev_v493.trans (congrArg ft (by show v492.toInt.toNat = _; omega))) rfl (fun h9 => by omega) (fun h9 => by omega) (fun h9 => by omega) (fun h9 => by omega)⟩) _ (lv_sub hl [0, 2, 1, 3] rfl)
    have hk_0 : (0 : Int32).toInt = 0 := by decide
    have hk_0 : (0 : Int32).toInt = 0 := by decide
    have hk_0 : (0 : Int32).toInt = 0 := by decide
    exact hl473 402 0 0 0 n1 fs fk _ _ (by omega) (by omega) (by omega) (by omega) (by omega) (by omega) (by omega) (by omega) (by omega) hG hS hg_0 hg_1 hj0_0 hj0_1 hj0_2 hj0_3 hj0_4 hj0_5 hj0_6 hj0_7 hj0_8 hj0_9 hj1_0 ⟨0, by decide, by rw [show (0 : Int32).toInt = 0 by decide]; rfl⟩ _ (lv_sub hl [0, 1, 2, 3] rfl)
  · have hc1 : g0.toInt = 0 := (fi_eq rfl (show (0 : Int32).toInt = 0 by decide)).mp c9
    refine lv_aload_n hx hb dX12_row_7 rfl (lv_at hl 0 rfl) ?_
    refine lv_bipush (v := (-6)) hx hb dX12_row_8 (by decide) ?_
    have hk_m6 : ((-6) : Int32).toInt = (-6) := by decide
    refine tk_Vi (As := [.int (-6)]) (rest := []) (ci := 12) ⟨hx, hb, hml, hown, hts⟩ hK hG hZ hS (k_X12_refuse_x l D cy ld t a0 (-6) g0 g15 ht_a0 (by omega) (by omega) (by omega) (by omega)) ⟨hg_0, hg_1⟩ ⟨callB_of 1 hts (wl_in mw_275) rfl rfl rfl (htl _ mw_2) (htl _ mw_272) hd_yX12_refuse ⟨(Nat.le_of_ble_eq_true rfl), (Nat.le_of_ble_eq_true rfl)⟩, htl _ mw_273, htl _ mw_274⟩ ht_a0 (by decide) tk_no rfl (tk_w.pick [0, 4] rfl) rfl hl.1 rfl (Nat.le_of_ble_eq_true rfl) dX12_row_10 ⟨(Nat.le_of_ble_eq_true rfl), (Nat.le_of_ble_eq_true rfl)⟩ (fun v521 H locs hpo hG hS hq9 => ?_)
    have hj0_0 := hj0_0.call hq9 (tk_w.no ht_ld20 (by decide))
    have hj0_1 := hj0_1.call hq9 (tk_w.no ht_ld20 (by decide))
    have hj0_2 := hj0_2.call hq9 (tk_w.no ht_ld20 (by decide))
    have hj0_3 := hj0_3.call hq9 (tk_w.no ht_ld20 (by decide))
    have hj0_4 := hj0_4.call hq9 (tk_w.no ht_ld70 (by decide))
    have hj0_5 := hj0_5.call hq9 (tk_w.no ht_ld80 (by decide))
    have hj0_6 := hj0_6.call hq9 (tk_w.no ht_ld90 (by decide))
    have hj0_7 := hj0_7.call hq9 (tk_w.no ht_ld100 (by decide))
    have hj0_8 := hj0_8.call hq9 (tk_w.no ht_ld110 (by decide))
    have hj0_9 := hj0_9.call hq9 (tk_w.no ht_ld120 (by decide))
    have hj1_0 := hj1_0.call hq9 (tk_w.no ht_ld26 (by decide))
    obtain ⟨hpo523, hf524, hf525⟩ := hpo
    exact tk_iret (v := v521) hx hb hr rfl hlocks (show (g0.toInt ≤ 0 → v521.toInt + 6 = 0) ∧ (1 ≤ g0.toInt → 0 ≤ v521.toInt) ∧ (∃ n9 : Int32, tk_f D H a0 12 13 (.int n9) ∧ n9.toInt = 0) ∧ (g0.toInt ≤ 0 → jC D ld (ld 20) 0 n0 n1 n2 n3 fh fs fk q1 q2 q3 H ∧ tk_f D H a0 12 15 (.int g15)) ∧ (1 ≤ g0.toInt → ∃ (n9 c9 : Int32) (f9 f8 : Nat → Int32), jC D ld (ld 20) 0 n0 n9 n2 n3 fh f9 f8 q1 q2 q3 H ∧ tk_f D H a0 12 15 (.int c9) ∧ rw9 ft g0.toInt n1.toInt fs fk ((g0.toInt.toNat + 1) / 2) = (n9.toInt, v521.toInt, c9.toInt, f9, f8)) ∧ tk_c H (ld 26) 400 ft from ⟨(fun _ => by omega), (fun _ => by omega), ⟨g0, hf524, (by omega)⟩, (fun _ => ⟨⟨hj0_0, hj0_1, hj0_2, hj0_3, hj0_4, hj0_5, hj0_6, hj0_7, hj0_8, hj0_9⟩, hf525⟩), (fun h9 => (show False by omega).elim), hj1_0⟩) hG hS dX12_row_13
set_option maxHeartbeats 4000000 in
set_option maxRecDepth 100000 in
theorem k_X12_coughs_x (l : Launch) (D : va_G) (cy : Nat → ClassId) (ld : Nat → Nat) (t : tk_T) (a0 : Nat) (g15 : Int32) (ht_a0 : t a0 = (13, 0, 0)) (hp_0 : (-2147483648) ≤ g15.toInt) (hp_1 : g15.toInt ≤ 2147483647) : Met l yX12_coughs (wl yX12_coughs cX12_coughs 1 (some .int)) ({ frames := 3, cells := 0, slots := 0, locals := 140 }) (tp D cy ld t [] [.ref a0] (fun H => tk_f D H a0 12 15 (.int g15))) (ti D cy ld t [] (fun r H => (-1) * g15.toInt + r.toInt = 0) (tk_w t [])) 0 0 (tk_w t []) := by
  refine tk_met (y := yX12_coughs) (cc := cX12_coughs) (maxL := 1) (ret := (some .int)) (av := [.ref a0]) _ _ (by decide) (Nat.le_of_ble_eq_true rfl) ?_
  intro p e s m args below meth c hx hb hr hml hts htl hown hlocks hK H locs hH hG hS hB hZ ls hl
  have hown : s.vm.findClass RX12 = some m.cls := hown
  have hl : lv_has ls 1 [(0, .ref a0)] := hl
  have hg_0 := hB
  refine lv_aload_n hx hb dX12_coughs_0 rfl (lv_at hl 0 rfl) ?_
  refine tk_getk (ci := 12) (C := RX12) (T := TX12) (N := 17) (sp := (0, (-2147483648), 2147483647, 0)) hx hb htl inX12 hown hK hG ht_a0 (by decide) tk_no rfl 15 (by decide) (htl _ mw_448) (fun _ h9 => h9) rfl hg_0 dX12_coughs_1 ?_
  exact tk_iret (v := g15) hx hb hr rfl hlocks (show (-1) * g15.toInt + g15.toInt = 0 from (by omega)) hG hS dX12_coughs_4
set_option maxHeartbeats 4000000 in
set_option maxRecDepth 100000 in
theorem k_X2_isVerse_x (l : Launch) (D : va_G) (cy : Nat → ClassId) (ld : Nat → Nat) (t : tk_T) (a0 : Nat) (p1 : Int32) (ht_a0 : t a0 = (3, 0, 0)) : Met l yX2_isVerse (wl yX2_isVerse cX2_isVerse 2 (some .boolean)) ({ frames := 3, cells := 0, slots := 0, locals := 140 }) (tp D cy ld t [] [.ref a0, .int p1] (fun H => True)) (ti D cy ld t [] (fun r H => (1 ≤ r.toInt → 0 ≤ p1.toInt ∧ p1.toInt ≤ 9) ∧ 0 ≤ r.toInt ∧ r.toInt ≤ 1 ∧ 0 ≤ r.toInt ∧ r.toInt ≤ 1) (tk_w t [])) 0 0 (tk_w t []) := by
  refine tk_met (y := yX2_isVerse) (cc := cX2_isVerse) (maxL := 2) (ret := (some .boolean)) (av := [.ref a0, .int p1]) _ _ (by decide) (Nat.le_of_ble_eq_true rfl) ?_
  intro p e s m args below meth c hx hb hr hml hts htl hown hlocks hK H locs hH hG hS hB hZ ls hl
  have hown : s.vm.findClass RX2 = some m.cls := hown
  have hl : lv_has ls 2 [(0, .ref a0), (1, .int p1)] := hl
  have hr_p1 := tk_rng p1
  refine lv_iload_n hx hb dX2_isVerse_0 rfl (lv_at hl 1 rfl) ?_
  refine lv_if_lt (tgt := 16) hx hb dX2_isVerse_1 (by decide) (fun c9 => ?_) (fun c9 => ?_)
  · have hc1 : p1.toInt < 0 := (fi_lt rfl (show (0 : Int32).toInt = 0 by decide)).mp c9
    refine lv_iconst (v := 0) hx hb dX2_isVerse_16 (by decide) ?_
    have hk_0 : (0 : Int32).toInt = 0 := by decide
    exact tk_iret (v := 0) hx hb hr rfl hlocks (show (1 ≤ (0 : Int32).toInt → 0 ≤ p1.toInt ∧ p1.toInt ≤ 9) ∧ 0 ≤ (0 : Int32).toInt ∧ (0 : Int32).toInt ≤ 1 ∧ 0 ≤ (0 : Int32).toInt ∧ (0 : Int32).toInt ≤ 1 from ⟨(fun _ => ⟨by omega, by omega⟩), (by omega), (by omega), (by omega), (by omega)⟩) hG hS dX2_isVerse_17
  · have hc1 : ¬ (p1.toInt < 0) := fun h9 => c9 ((fi_lt rfl (show (0 : Int32).toInt = 0 by decide)).mpr h9)
    refine lv_iload_n hx hb dX2_isVerse_4 rfl (lv_at hl 1 rfl) ?_
    refine lv_aload_n hx hb dX2_isVerse_5 rfl (lv_at hl 0 rfl) ?_
    refine tk_get (ci := 2) (C := RX2) (T := TX2) (N := 20) (sp := (0, 0, 10, 0)) hx hb htl inX2 hown hK hG ht_a0 (by decide) tk_no rfl 4 (by decide) (htl _ mw_333) (fun _ h9 => h9) rfl dX2_isVerse_6 (fun v9 hf2 hV9 => ?_)
    obtain ⟨v3, rfl, (ha_v3 : 0 ≤ v3.toInt), (hb_v3 : v3.toInt ≤ 10)⟩ := hV9
    refine lv_icmp_ge (tgt := 16) hx hb dX2_isVerse_9 (by decide) (fun c9 => ?_) (fun c9 => ?_)
    · have hc4 : v3.toInt ≤ p1.toInt := (fi_le rfl rfl).mp c9
      refine lv_iconst (v := 0) hx hb dX2_isVerse_16 (by decide) ?_
      have hk_0 : (0 : Int32).toInt = 0 := by decide
      exact tk_iret (v := 0) hx hb hr rfl hlocks (show (1 ≤ (0 : Int32).toInt → 0 ≤ p1.toInt ∧ p1.toInt ≤ 9) ∧ 0 ≤ (0 : Int32).toInt ∧ (0 : Int32).toInt ≤ 1 ∧ 0 ≤ (0 : Int32).toInt ∧ (0 : Int32).toInt ≤ 1 from ⟨(fun _ => ⟨by omega, by omega⟩), (by omega), (by omega), (by omega), (by omega)⟩) hG hS dX2_isVerse_17
    · have hc4 : ¬ (v3.toInt ≤ p1.toInt) := fun h9 => c9 ((fi_le rfl rfl).mpr h9)
      refine lv_iconst (v := 1) hx hb dX2_isVerse_12 (by decide) ?_
      refine lv_goto (tgt := 17) hx hb dX2_isVerse_13 (by decide) ?_
      have hk_1 : (1 : Int32).toInt = 1 := by decide
      exact tk_iret (v := 1) hx hb hr rfl hlocks (show (1 ≤ (1 : Int32).toInt → 0 ≤ p1.toInt ∧ p1.toInt ≤ 9) ∧ 0 ≤ (1 : Int32).toInt ∧ (1 : Int32).toInt ≤ 1 ∧ 0 ≤ (1 : Int32).toInt ∧ (1 : Int32).toInt ≤ 1 from ⟨(fun _ => ⟨by omega, by omega⟩), (by omega), (by omega), (by omega), (by omega)⟩) hG hS dX2_isVerse_17
set_option maxHeartbeats 4000000 in
set_option maxRecDepth 100000 in
theorem k_X2_isSinger_x (l : Launch) (D : va_G) (cy : Nat → ClassId) (ld : Nat → Nat) (t : tk_T) (a0 : Nat) (p1 : Int32) (ht_a0 : t a0 = (3, 0, 0)) : Met l yX2_isSinger (wl yX2_isSinger cX2_isSinger 2 (some .boolean)) ({ frames := 3, cells := 0, slots := 0, locals := 140 }) (tp D cy ld t [] [.ref a0, .int p1] (fun H => True)) (ti D cy ld t [] (fun r H => (1 ≤ r.toInt → 0 ≤ p1.toInt ∧ p1.toInt ≤ 7) ∧ 0 ≤ r.toInt ∧ r.toInt ≤ 1 ∧ 0 ≤ r.toInt ∧ r.toInt ≤ 1) (tk_w t [])) 0 0 (tk_w t []) := by
  refine tk_met (y := yX2_isSinger) (cc := cX2_isSinger) (maxL := 2) (ret := (some .boolean)) (av := [.ref a0, .int p1]) _ _ (by decide) (Nat.le_of_ble_eq_true rfl) ?_
  intro p e s m args below meth c hx hb hr hml hts htl hown hlocks hK H locs hH hG hS hB hZ ls hl
  have hown : s.vm.findClass RX2 = some m.cls := hown
  have hl : lv_has ls 2 [(0, .ref a0), (1, .int p1)] := hl
  have hr_p1 := tk_rng p1
  refine lv_iload_n hx hb dX2_isSinger_0 rfl (lv_at hl 1 rfl) ?_
  refine lv_if_lt (tgt := 16) hx hb dX2_isSinger_1 (by decide) (fun c9 => ?_) (fun c9 => ?_)
  · have hc1 : p1.toInt < 0 := (fi_lt rfl (show (0 : Int32).toInt = 0 by decide)).mp c9
    refine lv_iconst (v := 0) hx hb dX2_isSinger_16 (by decide) ?_
    have hk_0 : (0 : Int32).toInt = 0 := by decide
    exact tk_iret (v := 0) hx hb hr rfl hlocks (show (1 ≤ (0 : Int32).toInt → 0 ≤ p1.toInt ∧ p1.toInt ≤ 7) ∧ 0 ≤ (0 : Int32).toInt ∧ (0 : Int32).toInt ≤ 1 ∧ 0 ≤ (0 : Int32).toInt ∧ (0 : Int32).toInt ≤ 1 from ⟨(fun _ => ⟨by omega, by omega⟩), (by omega), (by omega), (by omega), (by omega)⟩) hG hS dX2_isSinger_17
  · have hc1 : ¬ (p1.toInt < 0) := fun h9 => c9 ((fi_lt rfl (show (0 : Int32).toInt = 0 by decide)).mpr h9)
    refine lv_iload_n hx hb dX2_isSinger_4 rfl (lv_at hl 1 rfl) ?_
    refine lv_aload_n hx hb dX2_isSinger_5 rfl (lv_at hl 0 rfl) ?_
    refine tk_get (ci := 2) (C := RX2) (T := TX2) (N := 20) (sp := (0, 0, 8, 0)) hx hb htl inX2 hown hK hG ht_a0 (by decide) tk_no rfl 0 (by decide) (htl _ mw_257) (fun _ h9 => h9) rfl dX2_isSinger_6 (fun v9 hf2 hV9 => ?_)
    obtain ⟨v3, rfl, (ha_v3 : 0 ≤ v3.toInt), (hb_v3 : v3.toInt ≤ 8)⟩ := hV9
    refine lv_icmp_ge (tgt := 16) hx hb dX2_isSinger_9 (by decide) (fun c9 => ?_) (fun c9 => ?_)
    · have hc4 : v3.toInt ≤ p1.toInt := (fi_le rfl rfl).mp c9
      refine lv_iconst (v := 0) hx hb dX2_isSinger_16 (by decide) ?_
      have hk_0 : (0 : Int32).toInt = 0 := by decide
      exact tk_iret (v := 0) hx hb hr rfl hlocks (show (1 ≤ (0 : Int32).toInt → 0 ≤ p1.toInt ∧ p1.toInt ≤ 7) ∧ 0 ≤ (0 : Int32).toInt ∧ (0 : Int32).toInt ≤ 1 ∧ 0 ≤ (0 : Int32).toInt ∧ (0 : Int32).toInt ≤ 1 from ⟨(fun _ => ⟨by omega, by omega⟩), (by omega), (by omega), (by omega), (by omega)⟩) hG hS dX2_isSinger_17
    · have hc4 : ¬ (v3.toInt ≤ p1.toInt) := fun h9 => c9 ((fi_le rfl rfl).mpr h9)
      refine lv_iconst (v := 1) hx hb dX2_isSinger_12 (by decide) ?_
      refine lv_goto (tgt := 17) hx hb dX2_isSinger_13 (by decide) ?_
      have hk_1 : (1 : Int32).toInt = 1 := by decide
      exact tk_iret (v := 1) hx hb hr rfl hlocks (show (1 ≤ (1 : Int32).toInt → 0 ≤ p1.toInt ∧ p1.toInt ≤ 7) ∧ 0 ≤ (1 : Int32).toInt ∧ (1 : Int32).toInt ≤ 1 ∧ 0 ≤ (1 : Int32).toInt ∧ (1 : Int32).toInt ≤ 1 from ⟨(fun _ => ⟨by omega, by omega⟩), (by omega), (by omega), (by omega), (by omega)⟩) hG hS dX2_isSinger_17
set_option maxHeartbeats 4000000 in
set_option maxRecDepth 100000 in
theorem k_X12_orders_x (l : Launch) (D : va_G) (cy : Nat → ClassId) (ld : Nat → Nat) (t : tk_T) (a0 : Nat) (g0 : Int32) (g15 : Int32) (ht_a0 : t a0 = (13, 0, 0)) (hp_0 : 0 ≤ g0.toInt) (hp_1 : g0.toInt ≤ 400) (hp_2 : (-2147483648) ≤ g15.toInt) (hp_3 : g15.toInt ≤ 2147483647) : Met l yX12_orders (wl yX12_orders cX12_orders 2 (some .int)) ({ frames := 41, cells := 0, slots := 0, locals := 2800 }) (tp D cy ld t [] [.ref a0] (fun H => tk_f D H a0 12 13 (.int g0) ∧ tk_f D H a0 12 15 (.int g15))) (ti D cy ld t [] (fun r H => tk_f D H a0 12 13 (.int 0) ∧ tk_f D H a0 12 15 (.int g15)) (tk_w t [(13, 0, 0), (5, 0, 0), (8, 12, 12), (7, 0, 0), (20, 0, 0), (23, 0, 0), (20, 2, 2), (10, 2, 2), (2, 0, 0), (20, 3, 3), (10, 3, 3), (20, 1, 1), (10, 1, 1), (10, 0, 0), (12, 0, 0), (9, 0, 0)])) 0 0 (tk_w t [(13, 0, 0), (5, 0, 0), (8, 12, 12), (7, 0, 0), (20, 0, 0), (23, 0, 0), (20, 2, 2), (10, 2, 2), (2, 0, 0), (20, 3, 3), (10, 3, 3), (20, 1, 1), (10, 1, 1), (10, 0, 0), (12, 0, 0), (9, 0, 0)]) := by
  refine tk_met (y := yX12_orders) (cc := cX12_orders) (maxL := 2) (ret := (some .int)) (av := [.ref a0]) _ _ (by decide) (Nat.le_of_ble_eq_true rfl) ?_
  intro p e s m args below meth c hx hb hr hml hts htl hown hlocks hK H locs hH hG hS hB hZ ls hl
  have hown : s.vm.findClass RX12 = some m.cls := hown
  have hl : lv_has ls 2 [(0, .ref a0)] := hl
  obtain ⟨hg_0, hg_1⟩ := hB
  refine lv_aload_n hx hb dX12_orders_0 rfl (lv_at hl 0 rfl) ?_
  refine tk_getk (ci := 12) (C := RX12) (T := TX12) (N := 17) (sp := (0, 0, 400, 0)) hx hb htl inX12 hown hK hG ht_a0 (by decide) tk_no rfl 13 (by decide) (htl _ mw_422) (fun _ h9 => h9) rfl hg_0 dX12_orders_1 ?_
  refine lv_istore_n (lv' := [(1, .int g0), (0, .ref a0)]) hx hb dX12_orders_4 rfl hl (by decide) rfl (fun ls hl => ?_)
  refine lv_aload_n hx hb dX12_orders_5 rfl (lv_at hl 1 rfl) ?_
  refine lv_iconst (v := 0) hx hb dX12_orders_6 (by decide) ?_
  refine tk_put (ci := 12) (v := .int 0) (ty := .int) (C := RX12) (T := TX12) (N := 17) (sp := (0, 0, 400, 0)) hx hb htl inX12 tyX12 tyX12_ok nmX12 hown hK hG hS ht_a0 (by decide) tk_no rfl 13 (by decide) (htl _ mw_422) (fun _ h9 => h9) rfl (tyX12_ok 13 (by decide)) rfl rfl rfl (tk_V0 (by decide) (by decide)) (fun _ h => h) (tk_w.of ht_a0 (by decide) (List.mem_of_getElem? (i := 0) rfl) (Nat.le_refl _) (Nat.le_refl _)) dX12_orders_7 (fun H locs hG hS hf1 hq9 hj9 => ?_)
  have hg_1 := hj9 15 _ (by decide) (by decide) hg_1
  refine lv_aload_n hx hb dX12_orders_10 rfl (lv_at hl 1 rfl) ?_
  refine tk_get (ci := 12) (C := RX12) (T := TX12) (N := 17) (sp := (6, 5, 0, 0)) hx hb htl inX12 hown hK hG ht_a0 (by decide) tk_no rfl 5 (by decide) (htl _ mw_31) (fun _ h9 => h9) rfl dX12_orders_11 (fun v9 hf3 hV9 => ?_)
  obtain ⟨b4, rfl, ht_b4⟩ := hV9
  have ht_b4 : t b4 = (5, 0, 0) := ht_b4
  refine lv_iconst (v := (-1)) hx hb dX12_orders_14 (by decide) ?_
  refine tk_put (ci := 4) (v := .int (-1)) (ty := .int) (C := RX4) (T := TX4) (N := 6) (sp := (0, (-2147483648), 2147483647, 0)) hx hb htl inX4 tyX4 tyX4_ok nmX4 hown hK hG hS ht_b4 (by decide) tk_no rfl 0 (by decide) (htl _ mw_800) (fun _ h9 => h9) rfl (tyX4_ok 0 (by decide)) rfl rfl rfl (tk_V0 (tk_rng _).1 (tk_rng _).2) (fun _ h => h) (tk_w.of ht_b4 (by decide) (List.mem_of_getElem? (i := 1) rfl) (Nat.le_refl _) (Nat.le_refl _)) dX12_orders_15 (fun H locs hG hS hf5 hq9 hj9 => ?_)
  have hg_1 := hg_1.kept (hq9 _ (tk_ne ht_a0 ht_b4 (Or.inl (by decide))))
  have hf1 := hf1.kept (hq9 _ (tk_ne ht_a0 ht_b4 (Or.inl (by decide))))
  refine lv_aload_n hx hb dX12_orders_18 rfl (lv_at hl 1 rfl) ?_
  refine lv_aload_n hx hb dX12_orders_19 rfl (lv_at hl 1 rfl) ?_
  refine tk_get (ci := 12) (C := RX12) (T := TX12) (N := 17) (sp := (6, 7, 0, 0)) hx hb htl inX12 hown hK hG ht_a0 (by decide) tk_no rfl 6 (by decide) (htl _ mw_37) (fun _ h9 => h9) rfl dX12_orders_20 (fun v9 hf7 hV9 => ?_)
  obtain ⟨b8, rfl, ht_b8⟩ := hV9
  have ht_b8 : t b8 = (7, 0, 0) := ht_b8
  refine lv_iload_n hx hb dX12_orders_23 rfl (lv_at hl 0 rfl) ?_
  refine lv_iconst (v := 0) hx hb dX12_orders_24 (by decide) ?_
  have hk_0 : (0 : Int32).toInt = 0 := by decide
  refine tk_Vi (As := [.int g0, .int 0]) (rest := [.ref a0]) (ci := 6) ⟨hx, hb, hml, hown, hts⟩ hK hG hZ hS (k_X6_read l D cy ld t b8 g0 0 ht_b8 (by omega) (by omega) (by omega) (by omega)) trivial ⟨callB_of 2 hts (wl_in mw_471) rfl rfl rfl (htl _ mw_36) (htl _ mw_468) hd_yX6_read ⟨(Nat.le_of_ble_eq_true rfl), (Nat.le_of_ble_eq_true rfl)⟩, htl _ mw_469, htl _ mw_470⟩ ht_b8 (by decide) tk_no rfl (tk_w.pick [2, 3, 4, 5] rfl) rfl hl.1 rfl (Nat.le_of_ble_eq_true rfl) dX12_orders_25 ⟨(Nat.le_of_ble_eq_true rfl), (Nat.le_of_ble_eq_true rfl)⟩ (fun v9 H locs hpo hG hS hq9 => ?_)
  have hg_1 := hg_1.call hq9 (tk_w.no ht_a0 (by decide))
  have hf1 := hf1.call hq9 (tk_w.no ht_a0 (by decide))
  refine tk_put (ci := 12) (v := .int v9) (ty := .int) (C := RX12) (T := TX12) (N := 17) (sp := (0, (-2147483648), 2147483647, 0)) hx hb htl inX12 tyX12 tyX12_ok nmX12 hown hK hG hS ht_a0 (by decide) tk_no rfl 14 (by decide) (htl _ mw_55) (fun _ h9 => h9) rfl (tyX12_ok 14 (by decide)) rfl rfl rfl (tk_V0 (tk_rng _).1 (tk_rng _).2) (fun _ h => h) (tk_w.of ht_a0 (by decide) (List.mem_of_getElem? (i := 0) rfl) (Nat.le_refl _) (Nat.le_refl _)) dX12_orders_28 (fun H locs hG hS hf11 hq9 hj9 => ?_)
  have hg_1 := hj9 15 _ (by decide) (by decide) hg_1
  have hf1 := hj9 13 _ (by decide) (by decide) hf1
  refine lv_aload_n hx hb dX12_orders_31 rfl (lv_at hl 1 rfl) ?_
  refine tk_get (ci := 12) (C := RX12) (T := TX12) (N := 17) (sp := (0, (-2147483648), 2147483647, 0)) hx hb htl inX12 hown hK hG ht_a0 (by decide) tk_no rfl 14 (by decide) (htl _ mw_55) (fun _ h9 => h9) rfl dX12_orders_32 (fun v9 hf13 hV9 => ?_)
  obtain ⟨v14, rfl, (ha_v14 : (-2147483648) ≤ v14.toInt), (hb_v14 : v14.toInt ≤ 2147483647)⟩ := hV9
  refine lv_iconst (v := (-1)) hx hb dX12_orders_35 (by decide) ?_
  refine lv_icmp_eq (tgt := 46) hx hb dX12_orders_36 (by decide) (fun c9 => ?_) (fun c9 => ?_)
  · have hc15 : v14.toInt = (-1) := (fi_eq rfl (show ((-1) : Int32).toInt = (-1) by decide)).mp c9
    refine lv_aload_n hx hb dX12_orders_46 rfl (lv_at hl 1 rfl) ?_
    refine lv_aload_n hx hb dX12_orders_47 rfl (lv_at hl 1 rfl) ?_
    refine tk_get (ci := 12) (C := RX12) (T := TX12) (N := 17) (sp := (6, 5, 0, 0)) hx hb htl inX12 hown hK hG ht_a0 (by decide) tk_no rfl 5 (by decide) (htl _ mw_31) (fun _ h9 => h9) rfl dX12_orders_48 (fun v9 hf16 hV9 => ?_)
    obtain ⟨b17, rfl, ht_b17⟩ := hV9
    have ht_b17 : t b17 = (5, 0, 0) := ht_b17
    refine lv_aload_n hx hb dX12_orders_51 rfl (lv_at hl 1 rfl) ?_
    refine tk_get (ci := 12) (C := RX12) (T := TX12) (N := 17) (sp := (6, 7, 0, 0)) hx hb htl inX12 hown hK hG ht_a0 (by decide) tk_no rfl 6 (by decide) (htl _ mw_37) (fun _ h9 => h9) rfl dX12_orders_52 (fun v9 hf18 hV9 => ?_)
    obtain ⟨b19, rfl, ht_b19⟩ := hV9
    have ht_b19 : t b19 = (7, 0, 0) := ht_b19
    refine tk_get (ci := 6) (C := RX6) (T := TX6) (N := 11) (sp := (6, 8, 512, 12)) hx hb htl inX6 hown hK hG ht_b19 (by decide) tk_no rfl 0 (by decide) (htl _ mw_467) (fun _ h9 => h9) rfl dX12_orders_55 (fun v9 hf20 hV9 => ?_)
    obtain ⟨b21, rfl, ht_b21⟩ := hV9
    have ht_b21 : t b21 = (8, 512, 12) := ht_b21
    refine tk_Vi (As := [.ref b21]) (rest := [.ref a0]) (ci := 4) ⟨hx, hb, hml, hown, hts⟩ hK hG hZ hS (k_X4_run l D cy ld t b17 b21 ht_b17 ht_b21) trivial ⟨callB_of 1 hts (wl_in mw_804) rfl rfl rfl (htl _ mw_29) (htl _ mw_801) hd_yX4_run ⟨(Nat.le_of_ble_eq_true rfl), (Nat.le_of_ble_eq_true rfl)⟩, htl _ mw_802, htl _ mw_803⟩ ht_b17 (by decide) tk_no rfl (tk_w.pick [6, 7, 8, 9, 10, 4, 1, 11, 12, 13, 14, 15] rfl) rfl hl.1 rfl (Nat.le_of_ble_eq_true rfl) dX12_orders_58 ⟨(Nat.le_of_ble_eq_true rfl), (Nat.le_of_ble_eq_true rfl)⟩ (fun v22 H locs hpo hG hS hq9 => ?_)
    have hg_1 := hg_1.call hq9 (tk_w.no ht_a0 (by decide))
    have hf1 := hf1.call hq9 (tk_w.no ht_a0 (by decide))
    have hk_0 : (0 : Int32).toInt = 0 := by decide
    refine tk_Vi (As := [.int v22]) (rest := []) (ci := 12) ⟨hx, hb, hml, hown, hts⟩ hK hG hZ hS (k_X12_tell_x l D cy ld t a0 v22 0 g15 ht_a0 (by omega) (by omega) (by omega) (by omega)) ⟨hf1, hg_1⟩ ⟨callB_of 1 hts (wl_in mw_271) rfl rfl rfl (htl _ mw_2) (htl _ mw_268) hd_yX12_tell ⟨(Nat.le_of_ble_eq_true rfl), (Nat.le_of_ble_eq_true rfl)⟩, htl _ mw_269, htl _ mw_270⟩ ht_a0 (by decide) tk_no rfl (tk_w.pick [0, 4] rfl) rfl hl.1 rfl (Nat.le_of_ble_eq_true rfl) dX12_orders_61 ⟨(Nat.le_of_ble_eq_true rfl), (Nat.le_of_ble_eq_true rfl)⟩ (fun v24 H locs hpo hG hS hq9 => ?_)
    obtain ⟨hpo26, hf27, hf28⟩ := hpo
    exact tk_iret (v := v24) hx hb hr rfl hlocks (show tk_f D H a0 12 13 (.int 0) ∧ tk_f D H a0 12 15 (.int g15) from ⟨hf27, hf28⟩) hG hS dX12_orders_64
  · have hc15 : ¬ (v14.toInt = (-1)) := fun h9 => c9 ((fi_eq rfl (show ((-1) : Int32).toInt = (-1) by decide)).mpr h9)
    refine lv_aload_n hx hb dX12_orders_39 rfl (lv_at hl 1 rfl) ?_
    refine lv_bipush (v := (-6)) hx hb dX12_orders_40 (by decide) ?_
    have hk_m6 : ((-6) : Int32).toInt = (-6) := by decide
    have hk_0 : (0 : Int32).toInt = 0 := by decide
    refine tk_Vi (As := [.int (-6)]) (rest := []) (ci := 12) ⟨hx, hb, hml, hown, hts⟩ hK hG hZ hS (k_X12_refuse_x l D cy ld t a0 (-6) 0 g15 ht_a0 (by omega) (by omega) (by omega) (by omega)) ⟨hf1, hg_1⟩ ⟨callB_of 1 hts (wl_in mw_275) rfl rfl rfl (htl _ mw_2) (htl _ mw_272) hd_yX12_refuse ⟨(Nat.le_of_ble_eq_true rfl), (Nat.le_of_ble_eq_true rfl)⟩, htl _ mw_273, htl _ mw_274⟩ ht_a0 (by decide) tk_no rfl (tk_w.pick [0, 4] rfl) rfl hl.1 rfl (Nat.le_of_ble_eq_true rfl) dX12_orders_42 ⟨(Nat.le_of_ble_eq_true rfl), (Nat.le_of_ble_eq_true rfl)⟩ (fun v29 H locs hpo hG hS hq9 => ?_)
    obtain ⟨hpo31, hf32, hf33⟩ := hpo
    exact tk_iret (v := v29) hx hb hr rfl hlocks (show tk_f D H a0 12 13 (.int 0) ∧ tk_f D H a0 12 15 (.int g15) from ⟨hf32, hf33⟩) hG hS dX12_orders_45
set_option maxHeartbeats 4000000 in
set_option maxRecDepth 100000 in
theorem k_X12_force_x (l : Launch) (D : va_G) (cy : Nat → ClassId) (ld : Nat → Nat) (t : tk_T) (a0 : Nat) (p1 : Int32) (g0 : Int32) (g15 : Int32) (n0 n1 n2 n3 : Int32) (fh fs fk q1 q2 q3 : Nat → Int32) (ht_a0 : t a0 = (13, 0, 0)) (ht_ld20 : t (ld 20) = (3, 0, 0)) (ht_ld70 : t (ld 70) = (32, 8, 0)) (ht_ld80 : t (ld 80) = (33, 10, 0)) (ht_ld90 : t (ld 90) = (34, 10, 0)) (ht_ld100 : t (ld 100) = (35, 10, 0)) (ht_ld110 : t (ld 110) = (36, 10, 0)) (ht_ld120 : t (ld 120) = (37, 10, 0)) (hp_0 : 0 ≤ n0.toInt) (hp_1 : n0.toInt ≤ 8) (hp_2 : 0 ≤ n1.toInt) (hp_3 : n1.toInt ≤ 10) (hp_4 : 0 ≤ n2.toInt) (hp_5 : n2.toInt ≤ 10) (hp_6 : 0 ≤ n3.toInt) (hp_7 : n3.toInt ≤ 8) (hp_8 : 0 ≤ g0.toInt) (hp_9 : g0.toInt ≤ 400) (hp_10 : (-2147483648) ≤ g15.toInt) (hp_11 : g15.toInt ≤ 2147483647) : Met l yX12_force (wl yX12_force cX12_force 3 (some .int)) ({ frames := 5, cells := 0, slots := 0, locals := 280 }) (tp D cy ld t [] [.ref a0, .int p1] (fun H => tk_f D H a0 12 13 (.int g0) ∧ tk_f D H a0 12 15 (.int g15) ∧ jC D ld (ld 20) 0 n0 n1 n2 n3 fh fs fk q1 q2 q3 H)) (ti D cy ld t [] (fun r H => tk_f D H a0 12 13 (.int g0) ∧ tk_f D H a0 12 15 (.int g15) ∧ jC D ld (ld 20) 0 n0 n1 n2 n3 fh fs fk q1 q2 q3 H) (tk_w t [(3, 0, 0), (13, 0, 0), (20, 0, 0)])) 0 0 (tk_w t [(3, 0, 0), (13, 0, 0), (20, 0, 0)]) := by
  refine tk_met (y := yX12_force) (cc := cX12_force) (maxL := 3) (ret := (some .int)) (av := [.ref a0, .int p1]) _ _ (by decide) (Nat.le_of_ble_eq_true rfl) ?_
  intro p e s m args below meth c hx hb hr hml hts htl hown hlocks hK H locs hH hG hS hB hZ ls hl
  have hown : s.vm.findClass RX12 = some m.cls := hown
  have hl : lv_has ls 3 [(0, .ref a0), (1, .int p1)] := hl
  obtain ⟨hg_0, hg_1, ⟨hj0_0, hj0_1, hj0_2, hj0_3, hj0_4, hj0_5, hj0_6, hj0_7, hj0_8, hj0_9⟩⟩ := hB
  have hr_p1 := tk_rng p1
  refine lv_iload_n hx hb dX12_force_0 rfl (lv_at hl 1 rfl) ?_
  refine lv_iconst (v := (-1)) hx hb dX12_force_1 (by decide) ?_
  refine lv_icmp_eq (tgt := 29) hx hb dX12_force_2 (by decide) (fun c9 => ?_) (fun c9 => ?_)
  · have hc1 : p1.toInt = (-1) := (fi_eq rfl (show ((-1) : Int32).toInt = (-1) by decide)).mp c9
    refine lv_aload_n hx hb dX12_force_29 rfl (lv_at hl 0 rfl) ?_
    refine tk_get (ci := 12) (C := RX12) (T := TX12) (N := 17) (sp := (8, 20, 3, 0)) hx hb htl inX12 hown hK hG ht_a0 (by decide) tk_no rfl 0 (by decide) (htl _ mw_15) (fun _ h9 => h9) rfl dX12_force_30 (fun v9 hf2 hV9 => ?_)
    obtain ⟨rfl, ht_ld20⟩ := hV9
    have ht_ld20 : t (ld 20) = (3, 0, 0) := ht_ld20
    refine fx_top (v := .ref (ld 20)) rfl ?_
    refine tk_get (ci := 2) (C := RX2) (T := TX2) (N := 20) (sp := (0, (-2147483648), 2147483647, 0)) hx hb htl inX2 hown hK hG ht_ld20 (by decide) tk_no rfl 15 (by decide) (htl _ mw_1183) (fun _ h9 => h9) rfl dX12_force_33 (fun v9 hf3 hV9 => ?_)
    obtain ⟨v4, rfl, (ha_v4 : (-2147483648) ≤ v4.toInt), (hb_v4 : v4.toInt ≤ 2147483647)⟩ := hV9
    refine lv_istore_n (lv' := [(2, .int v4), (0, .ref a0), (1, .int p1)]) hx hb dX12_force_36 rfl hl (by decide) rfl (fun ls hl => ?_)
    refine lv_aload_n hx hb dX12_force_37 rfl (lv_at hl 1 rfl) ?_
    refine tk_get (ci := 12) (C := RX12) (T := TX12) (N := 17) (sp := (8, 20, 3, 0)) hx hb htl inX12 hown hK hG ht_a0 (by decide) tk_no rfl 0 (by decide) (htl _ mw_15) (fun _ h9 => h9) rfl dX12_force_38 (fun v9 hf5 hV9 => ?_)
    obtain ⟨rfl, ht_ld20⟩ := hV9
    have ht_ld20 : t (ld 20) = (3, 0, 0) := ht_ld20
    refine fx_top (v := .ref (ld 20)) rfl ?_
    refine lv_iload_n hx hb dX12_force_41 rfl (lv_at hl 2 rfl) ?_
    refine tk_put (ci := 2) (v := .int p1) (ty := .int) (C := RX2) (T := TX2) (N := 20) (sp := (0, (-2147483648), 2147483647, 0)) hx hb htl inX2 tyX2 tyX2_ok nmX2 hown hK hG hS ht_ld20 (by decide) tk_no rfl 15 (by decide) (htl _ mw_1183) (fun _ h9 => h9) rfl (tyX2_ok 15 (by decide)) rfl rfl rfl (tk_V0 (tk_rng _).1 (tk_rng _).2) (fun _ h => h) (tk_w.of ht_ld20 (by decide) (List.mem_of_getElem? (i := 0) rfl) (Nat.le_refl _) (Nat.le_refl _)) dX12_force_42 (fun H locs hG hS hf6 hq9 hj9 => ?_)
    have hg_0 := hg_0.kept (hq9 _ (tk_ne ht_a0 ht_ld20 (Or.inl (by decide))))
    have hg_1 := hg_1.kept (hq9 _ (tk_ne ht_a0 ht_ld20 (Or.inl (by decide))))
    have hj0_0 := hj9 0 _ (by decide) (by decide) hj0_0
    have hj0_1 := hj9 4 _ (by decide) (by decide) hj0_1
    have hj0_2 := hj9 7 _ (by decide) (by decide) hj0_2
    have hj0_3 := hj9 11 _ (by decide) (by decide) hj0_3
    have hj0_4 := hj0_4.kept (hq9 _ (tk_ne ht_ld70 ht_ld20 (Or.inl (by decide))))
    have hj0_5 := hj0_5.kept (hq9 _ (tk_ne ht_ld80 ht_ld20 (Or.inl (by decide))))
    have hj0_6 := hj0_6.kept (hq9 _ (tk_ne ht_ld90 ht_ld20 (Or.inl (by decide))))
    have hj0_7 := hj0_7.kept (hq9 _ (tk_ne ht_ld100 ht_ld20 (Or.inl (by decide))))
    have hj0_8 := hj0_8.kept (hq9 _ (tk_ne ht_ld110 ht_ld20 (Or.inl (by decide))))
    have hj0_9 := hj0_9.kept (hq9 _ (tk_ne ht_ld120 ht_ld20 (Or.inl (by decide))))
    refine lv_aload_n hx hb dX12_force_45 rfl (lv_at hl 1 rfl) ?_
    refine lv_iload_n hx hb dX12_force_46 rfl (lv_at hl 0 rfl) ?_
    refine tk_Vi (As := [.int v4]) (rest := []) (ci := 12) ⟨hx, hb, hml, hown, hts⟩ hK hG hZ hS (k_X12_accept_x l D cy ld t a0 v4 g0 g15 ht_a0 (by omega) (by omega) (by omega) (by omega)) ⟨hg_0, hg_1⟩ ⟨callB_of 1 hts (wl_in mw_281) rfl rfl rfl (htl _ mw_2) (htl _ mw_278) hd_yX12_accept ⟨(Nat.le_of_ble_eq_true rfl), (Nat.le_of_ble_eq_true rfl)⟩, htl _ mw_279, htl _ mw_280⟩ ht_a0 (by decide) tk_no rfl (tk_w.pick [1] rfl) rfl hl.1 rfl (Nat.le_of_ble_eq_true rfl) dX12_force_47 ⟨(Nat.le_of_ble_eq_true rfl), (Nat.le_of_ble_eq_true rfl)⟩ (fun v8 H locs hpo hG hS hq9 => ?_)
    have hj0_0 := hj0_0.call hq9 (tk_w.no ht_ld20 (by decide))
    have hj0_1 := hj0_1.call hq9 (tk_w.no ht_ld20 (by decide))
    have hj0_2 := hj0_2.call hq9 (tk_w.no ht_ld20 (by decide))
    have hj0_3 := hj0_3.call hq9 (tk_w.no ht_ld20 (by decide))
    have hj0_4 := hj0_4.call hq9 (tk_w.no ht_ld70 (by decide))
    have hj0_5 := hj0_5.call hq9 (tk_w.no ht_ld80 (by decide))
    have hj0_6 := hj0_6.call hq9 (tk_w.no ht_ld90 (by decide))
    have hj0_7 := hj0_7.call hq9 (tk_w.no ht_ld100 (by decide))
    have hj0_8 := hj0_8.call hq9 (tk_w.no ht_ld110 (by decide))
    have hj0_9 := hj0_9.call hq9 (tk_w.no ht_ld120 (by decide))
    have hf6 := hf6.call hq9 (tk_w.no ht_ld20 (by decide))
    obtain ⟨hpo10, hf11, hf12⟩ := hpo
    exact tk_iret (v := v8) hx hb hr rfl hlocks (show tk_f D H a0 12 13 (.int g0) ∧ tk_f D H a0 12 15 (.int g15) ∧ jC D ld (ld 20) 0 n0 n1 n2 n3 fh fs fk q1 q2 q3 H from ⟨hf11, hf12, ⟨hj0_0, hj0_1, hj0_2, hj0_3, hj0_4, hj0_5, hj0_6, hj0_7, hj0_8, hj0_9⟩⟩) hG hS dX12_force_50
  · have hc1 : ¬ (p1.toInt = (-1)) := fun h9 => c9 ((fi_eq rfl (show ((-1) : Int32).toInt = (-1) by decide)).mpr h9)
    refine lv_iload_n hx hb dX12_force_5 rfl (lv_at hl 1 rfl) ?_
    refine lv_iconst (v := 0) hx hb dX12_force_6 (by decide) ?_
    refine lv_aload_n hx hb dX12_force_7 rfl (lv_at hl 0 rfl) ?_
    refine tk_get (ci := 12) (C := RX12) (T := TX12) (N := 17) (sp := (8, 20, 3, 0)) hx hb htl inX12 hown hK hG ht_a0 (by decide) tk_no rfl 0 (by decide) (htl _ mw_15) (fun _ h9 => h9) rfl dX12_force_8 (fun v9 hf13 hV9 => ?_)
    obtain ⟨rfl, ht_ld20⟩ := hV9
    have ht_ld20 : t (ld 20) = (3, 0, 0) := ht_ld20
    refine fx_top (v := .ref (ld 20)) rfl ?_
    refine tk_get (ci := 2) (C := RX2) (T := TX2) (N := 20) (sp := (0, 0, 6, 0)) hx hb htl inX2 hown hK hG ht_ld20 (by decide) tk_no rfl 13 (by decide) (htl _ mw_466) (fun _ h9 => h9) rfl dX12_force_11 (fun v9 hf14 hV9 => ?_)
    obtain ⟨v15, rfl, (ha_v15 : 0 ≤ v15.toInt), (hb_v15 : v15.toInt ≤ 6)⟩ := hV9
    refine lv_iconst (v := 1) hx hb dX12_force_14 (by decide) ?_
    refine lv_isub hx hb dX12_force_15 ?_
    refine tk_sub rfl (show (1 : Int32).toInt = 1 by decide) (by omega) (by omega) (fun v16 h_v16 => ?_)
    have hk_0 : (0 : Int32).toInt = 0 := by decide
    refine tk_Si (As := [.int p1, .int 0, .int v16]) (rest := []) ⟨hx, hb, hml, hown, hts⟩ hK hG hZ hS (k_X12_within_x l D cy ld t _ p1 0 v16) trivial ⟨callB_of 3 hts (wl_in mw_262) rfl rfl rfl (htl _ mw_2) (htl _ mw_277) hd_yX12_within ⟨(Nat.le_of_ble_eq_true rfl), (Nat.le_of_ble_eq_true rfl)⟩, htl _ mw_261⟩ (tk_w.pick [] rfl) rfl hl.1 rfl (Nat.le_of_ble_eq_true rfl) dX12_force_16 ⟨(Nat.le_of_ble_eq_true rfl), (Nat.le_of_ble_eq_true rfl)⟩ (fun v17 H locs hpo hG hS hq9 => ?_)
    have hg_0 := hg_0.call hq9 tk_w.nil
    have hg_1 := hg_1.call hq9 tk_w.nil
    have hj0_0 := hj0_0.call hq9 tk_w.nil
    have hj0_1 := hj0_1.call hq9 tk_w.nil
    have hj0_2 := hj0_2.call hq9 tk_w.nil
    have hj0_3 := hj0_3.call hq9 tk_w.nil
    have hj0_4 := hj0_4.call hq9 tk_w.nil
    have hj0_5 := hj0_5.call hq9 tk_w.nil
    have hj0_6 := hj0_6.call hq9 tk_w.nil
    have hj0_7 := hj0_7.call hq9 tk_w.nil
    have hj0_8 := hj0_8.call hq9 tk_w.nil
    have hj0_9 := hj0_9.call hq9 tk_w.nil
    have hf14 := hf14.call hq9 tk_w.nil
    obtain ⟨hpo19, hpo20, hpo21, hpo22, hpo23, hpo24⟩ := hpo
    refine lv_if_ne (tgt := 29) hx hb dX12_force_19 (by decide) (fun c9 => ?_) (fun c9 => ?_)
    · have hc25 : ¬ (v17.toInt = 0) := fun h9 => c9 ((fi_eq rfl (show (0 : Int32).toInt = 0 by decide)).mpr h9)
      refine lv_aload_n hx hb dX12_force_29 rfl (lv_at hl 0 rfl) ?_
      refine tk_get (ci := 12) (C := RX12) (T := TX12) (N := 17) (sp := (8, 20, 3, 0)) hx hb htl inX12 hown hK hG ht_a0 (by decide) tk_no rfl 0 (by decide) (htl _ mw_15) (fun _ h9 => h9) rfl dX12_force_30 (fun v9 hf26 hV9 => ?_)
      obtain ⟨rfl, ht_ld20⟩ := hV9
      have ht_ld20 : t (ld 20) = (3, 0, 0) := ht_ld20
      refine fx_top (v := .ref (ld 20)) rfl ?_
      refine tk_get (ci := 2) (C := RX2) (T := TX2) (N := 20) (sp := (0, (-2147483648), 2147483647, 0)) hx hb htl inX2 hown hK hG ht_ld20 (by decide) tk_no rfl 15 (by decide) (htl _ mw_1183) (fun _ h9 => h9) rfl dX12_force_33 (fun v9 hf27 hV9 => ?_)
      obtain ⟨v28, rfl, (ha_v28 : (-2147483648) ≤ v28.toInt), (hb_v28 : v28.toInt ≤ 2147483647)⟩ := hV9
      refine lv_istore_n (lv' := [(2, .int v28), (0, .ref a0), (1, .int p1)]) hx hb dX12_force_36 rfl hl (by decide) rfl (fun ls hl => ?_)
      refine lv_aload_n hx hb dX12_force_37 rfl (lv_at hl 1 rfl) ?_
      refine tk_get (ci := 12) (C := RX12) (T := TX12) (N := 17) (sp := (8, 20, 3, 0)) hx hb htl inX12 hown hK hG ht_a0 (by decide) tk_no rfl 0 (by decide) (htl _ mw_15) (fun _ h9 => h9) rfl dX12_force_38 (fun v9 hf29 hV9 => ?_)
      obtain ⟨rfl, ht_ld20⟩ := hV9
      have ht_ld20 : t (ld 20) = (3, 0, 0) := ht_ld20
      refine fx_top (v := .ref (ld 20)) rfl ?_
      refine lv_iload_n hx hb dX12_force_41 rfl (lv_at hl 2 rfl) ?_
      refine tk_put (ci := 2) (v := .int p1) (ty := .int) (C := RX2) (T := TX2) (N := 20) (sp := (0, (-2147483648), 2147483647, 0)) hx hb htl inX2 tyX2 tyX2_ok nmX2 hown hK hG hS ht_ld20 (by decide) tk_no rfl 15 (by decide) (htl _ mw_1183) (fun _ h9 => h9) rfl (tyX2_ok 15 (by decide)) rfl rfl rfl (tk_V0 (tk_rng _).1 (tk_rng _).2) (fun _ h => h) (tk_w.of ht_ld20 (by decide) (List.mem_of_getElem? (i := 0) rfl) (Nat.le_refl _) (Nat.le_refl _)) dX12_force_42 (fun H locs hG hS hf30 hq9 hj9 => ?_)
      have hg_0 := hg_0.kept (hq9 _ (tk_ne ht_a0 ht_ld20 (Or.inl (by decide))))
      have hg_1 := hg_1.kept (hq9 _ (tk_ne ht_a0 ht_ld20 (Or.inl (by decide))))
      have hj0_0 := hj9 0 _ (by decide) (by decide) hj0_0
      have hj0_1 := hj9 4 _ (by decide) (by decide) hj0_1
      have hj0_2 := hj9 7 _ (by decide) (by decide) hj0_2
      have hj0_3 := hj9 11 _ (by decide) (by decide) hj0_3
      have hj0_4 := hj0_4.kept (hq9 _ (tk_ne ht_ld70 ht_ld20 (Or.inl (by decide))))
      have hj0_5 := hj0_5.kept (hq9 _ (tk_ne ht_ld80 ht_ld20 (Or.inl (by decide))))
      have hj0_6 := hj0_6.kept (hq9 _ (tk_ne ht_ld90 ht_ld20 (Or.inl (by decide))))
      have hj0_7 := hj0_7.kept (hq9 _ (tk_ne ht_ld100 ht_ld20 (Or.inl (by decide))))
      have hj0_8 := hj0_8.kept (hq9 _ (tk_ne ht_ld110 ht_ld20 (Or.inl (by decide))))
      have hj0_9 := hj0_9.kept (hq9 _ (tk_ne ht_ld120 ht_ld20 (Or.inl (by decide))))
      have hf14 := hj9 13 _ (by decide) (by decide) hf14
      refine lv_aload_n hx hb dX12_force_45 rfl (lv_at hl 1 rfl) ?_
      refine lv_iload_n hx hb dX12_force_46 rfl (lv_at hl 0 rfl) ?_
      refine tk_Vi (As := [.int v28]) (rest := []) (ci := 12) ⟨hx, hb, hml, hown, hts⟩ hK hG hZ hS (k_X12_accept_x l D cy ld t a0 v28 g0 g15 ht_a0 (by omega) (by omega) (by omega) (by omega)) ⟨hg_0, hg_1⟩ ⟨callB_of 1 hts (wl_in mw_281) rfl rfl rfl (htl _ mw_2) (htl _ mw_278) hd_yX12_accept ⟨(Nat.le_of_ble_eq_true rfl), (Nat.le_of_ble_eq_true rfl)⟩, htl _ mw_279, htl _ mw_280⟩ ht_a0 (by decide) tk_no rfl (tk_w.pick [1] rfl) rfl hl.1 rfl (Nat.le_of_ble_eq_true rfl) dX12_force_47 ⟨(Nat.le_of_ble_eq_true rfl), (Nat.le_of_ble_eq_true rfl)⟩ (fun v32 H locs hpo hG hS hq9 => ?_)
      have hj0_0 := hj0_0.call hq9 (tk_w.no ht_ld20 (by decide))
      have hj0_1 := hj0_1.call hq9 (tk_w.no ht_ld20 (by decide))
      have hj0_2 := hj0_2.call hq9 (tk_w.no ht_ld20 (by decide))
      have hj0_3 := hj0_3.call hq9 (tk_w.no ht_ld20 (by decide))
      have hj0_4 := hj0_4.call hq9 (tk_w.no ht_ld70 (by decide))
      have hj0_5 := hj0_5.call hq9 (tk_w.no ht_ld80 (by decide))
      have hj0_6 := hj0_6.call hq9 (tk_w.no ht_ld90 (by decide))
      have hj0_7 := hj0_7.call hq9 (tk_w.no ht_ld100 (by decide))
      have hj0_8 := hj0_8.call hq9 (tk_w.no ht_ld110 (by decide))
      have hj0_9 := hj0_9.call hq9 (tk_w.no ht_ld120 (by decide))
      have hf14 := hf14.call hq9 (tk_w.no ht_ld20 (by decide))
      have hf30 := hf30.call hq9 (tk_w.no ht_ld20 (by decide))
      obtain ⟨hpo34, hf35, hf36⟩ := hpo
      exact tk_iret (v := v32) hx hb hr rfl hlocks (show tk_f D H a0 12 13 (.int g0) ∧ tk_f D H a0 12 15 (.int g15) ∧ jC D ld (ld 20) 0 n0 n1 n2 n3 fh fs fk q1 q2 q3 H from ⟨hf35, hf36, ⟨hj0_0, hj0_1, hj0_2, hj0_3, hj0_4, hj0_5, hj0_6, hj0_7, hj0_8, hj0_9⟩⟩) hG hS dX12_force_50
    · have hc25 : v17.toInt = 0 := (fi_eq rfl (show (0 : Int32).toInt = 0 by decide)).mp c9
      refine lv_aload_n hx hb dX12_force_22 rfl (lv_at hl 0 rfl) ?_
      refine lv_bipush (v := (-2)) hx hb dX12_force_23 (by decide) ?_
      have hk_m2 : ((-2) : Int32).toInt = (-2) := by decide
      refine tk_Vi (As := [.int (-2)]) (rest := []) (ci := 12) ⟨hx, hb, hml, hown, hts⟩ hK hG hZ hS (k_X12_refuse_x l D cy ld t a0 (-2) g0 g15 ht_a0 (by omega) (by omega) (by omega) (by omega)) ⟨hg_0, hg_1⟩ ⟨callB_of 1 hts (wl_in mw_275) rfl rfl rfl (htl _ mw_2) (htl _ mw_272) hd_yX12_refuse ⟨(Nat.le_of_ble_eq_true rfl), (Nat.le_of_ble_eq_true rfl)⟩, htl _ mw_273, htl _ mw_274⟩ ht_a0 (by decide) tk_no rfl (tk_w.pick [1, 2] rfl) rfl hl.1 rfl (Nat.le_of_ble_eq_true rfl) dX12_force_25 ⟨(Nat.le_of_ble_eq_true rfl), (Nat.le_of_ble_eq_true rfl)⟩ (fun v37 H locs hpo hG hS hq9 => ?_)
      have hj0_0 := hj0_0.call hq9 (tk_w.no ht_ld20 (by decide))
      have hj0_1 := hj0_1.call hq9 (tk_w.no ht_ld20 (by decide))
      have hj0_2 := hj0_2.call hq9 (tk_w.no ht_ld20 (by decide))
      have hj0_3 := hj0_3.call hq9 (tk_w.no ht_ld20 (by decide))
      have hj0_4 := hj0_4.call hq9 (tk_w.no ht_ld70 (by decide))
      have hj0_5 := hj0_5.call hq9 (tk_w.no ht_ld80 (by decide))
      have hj0_6 := hj0_6.call hq9 (tk_w.no ht_ld90 (by decide))
      have hj0_7 := hj0_7.call hq9 (tk_w.no ht_ld100 (by decide))
      have hj0_8 := hj0_8.call hq9 (tk_w.no ht_ld110 (by decide))
      have hj0_9 := hj0_9.call hq9 (tk_w.no ht_ld120 (by decide))
      have hf14 := hf14.call hq9 (tk_w.no ht_ld20 (by decide))
      obtain ⟨hpo39, hf40, hf41⟩ := hpo
      exact tk_iret (v := v37) hx hb hr rfl hlocks (show tk_f D H a0 12 13 (.int g0) ∧ tk_f D H a0 12 15 (.int g15) ∧ jC D ld (ld 20) 0 n0 n1 n2 n3 fh fs fk q1 q2 q3 H from ⟨hf40, hf41, ⟨hj0_0, hj0_1, hj0_2, hj0_3, hj0_4, hj0_5, hj0_6, hj0_7, hj0_8, hj0_9⟩⟩) hG hS dX12_force_28
set_option maxHeartbeats 4000000 in
set_option maxRecDepth 100000 in
theorem k_X12_begin_x (l : Launch) (D : va_G) (cy : Nat → ClassId) (ld : Nat → Nat) (t : tk_T) (a0 : Nat) (p1 : Int32) (p2 : Int32) (p3 : Int32) (g0 : Int32) (g15 : Int32) (ht_a0 : t a0 = (13, 0, 0)) (hp_0 : 0 ≤ g0.toInt) (hp_1 : g0.toInt ≤ 400) (hp_2 : (-2147483648) ≤ g15.toInt) (hp_3 : g15.toInt ≤ 2147483647) : Met l yX12_begin (wl yX12_begin cX12_begin 4 (some .int)) ({ frames := 7, cells := 0, slots := 0, locals := 420 }) (tp D cy ld t [] [.ref a0, .int p1, .int p2, .int p3] (fun H => tk_f D H a0 12 13 (.int g0) ∧ tk_f D H a0 12 15 (.int g15))) (ti D cy ld t [] (fun r H => (-3) ≤ r.toInt ∧ r.toInt ≤ 0 ∧ tk_f D H a0 12 13 (.int g0) ∧ tk_f D H a0 12 15 (.int g15)) (tk_w t [(2, 0, 0), (20, 1, 1), (10, 1, 1), (20, 0, 0), (10, 0, 0), (13, 0, 0)])) 0 0 (tk_w t [(2, 0, 0), (20, 1, 1), (10, 1, 1), (20, 0, 0), (10, 0, 0), (13, 0, 0)]) := by
  refine tk_met (y := yX12_begin) (cc := cX12_begin) (maxL := 4) (ret := (some .int)) (av := [.ref a0, .int p1, .int p2, .int p3]) _ _ (by decide) (Nat.le_of_ble_eq_true rfl) ?_
  intro p e s m args below meth c hx hb hr hml hts htl hown hlocks hK H locs hH hG hS hB hZ ls hl
  have hown : s.vm.findClass RX12 = some m.cls := hown
  have hl : lv_has ls 4 [(0, .ref a0), (1, .int p1), (2, .int p2), (3, .int p3)] := hl
  obtain ⟨hg_0, hg_1⟩ := hB
  have hr_p1 := tk_rng p1
  have hr_p2 := tk_rng p2
  have hr_p3 := tk_rng p3
  refine lv_aload_n hx hb dX12_begin_0 rfl (lv_at hl 0 rfl) ?_
  refine lv_aload_n hx hb dX12_begin_1 rfl (lv_at hl 0 rfl) ?_
  refine tk_get (ci := 12) (C := RX12) (T := TX12) (N := 17) (sp := (6, 2, 0, 0)) hx hb htl inX12 hown hK hG ht_a0 (by decide) tk_no rfl 4 (by decide) (htl _ mw_26) (fun _ h9 => h9) rfl dX12_begin_2 (fun v9 hf1 hV9 => ?_)
  obtain ⟨b2, rfl, ht_b2⟩ := hV9
  have ht_b2 : t b2 = (2, 0, 0) := ht_b2
  refine lv_iload_n hx hb dX12_begin_5 rfl (lv_at hl 1 rfl) ?_
  refine lv_iload_n hx hb dX12_begin_6 rfl (lv_at hl 2 rfl) ?_
  refine lv_iload_n hx hb dX12_begin_7 rfl (lv_at hl 3 rfl) ?_
  refine tk_Vi (As := [.int p1, .int p2, .int p3]) (rest := [.ref a0]) (ci := 1) ⟨hx, hb, hml, hown, hts⟩ hK hG hZ hS (k_X1_openDuel l D cy ld t b2 p1 p2 p3 ht_b2) trivial ⟨callB_of 3 hts (wl_in mw_873) rfl rfl rfl (htl _ mw_25) (htl _ mw_1219) hd_yX1_openDuel ⟨(Nat.le_of_ble_eq_true rfl), (Nat.le_of_ble_eq_true rfl)⟩, htl _ mw_871, htl _ mw_872⟩ ht_b2 (by decide) tk_no rfl (tk_w.pick [0, 1, 2, 3, 4] rfl) rfl hl.1 rfl (Nat.le_of_ble_eq_true rfl) dX12_begin_8 ⟨(Nat.le_of_ble_eq_true rfl), (Nat.le_of_ble_eq_true rfl)⟩ (fun v3 H locs hpo hG hS hq9 => ?_)
  have hg_0 := hg_0.call hq9 (tk_w.no ht_a0 (by decide))
  have hg_1 := hg_1.call hq9 (tk_w.no ht_a0 (by decide))
  obtain ⟨hpo5, hpo6⟩ := hpo
  refine tk_Vi (As := [.int v3]) (rest := []) (ci := 12) ⟨hx, hb, hml, hown, hts⟩ hK hG hZ hS (k_X12_tell_x l D cy ld t a0 v3 g0 g15 ht_a0 (by omega) (by omega) (by omega) (by omega)) ⟨hg_0, hg_1⟩ ⟨callB_of 1 hts (wl_in mw_271) rfl rfl rfl (htl _ mw_2) (htl _ mw_268) hd_yX12_tell ⟨(Nat.le_of_ble_eq_true rfl), (Nat.le_of_ble_eq_true rfl)⟩, htl _ mw_269, htl _ mw_270⟩ ht_a0 (by decide) tk_no rfl (tk_w.pick [5, 3] rfl) rfl hl.1 rfl (Nat.le_of_ble_eq_true rfl) dX12_begin_11 ⟨(Nat.le_of_ble_eq_true rfl), (Nat.le_of_ble_eq_true rfl)⟩ (fun v7 H locs hpo hG hS hq9 => ?_)
  obtain ⟨hpo9, hf10, hf11⟩ := hpo
  exact tk_iret (v := v7) hx hb hr rfl hlocks (show (-3) ≤ v7.toInt ∧ v7.toInt ≤ 0 ∧ tk_f D H a0 12 13 (.int g0) ∧ tk_f D H a0 12 15 (.int g15) from ⟨(by omega), (by omega), hf10, hf11⟩) hG hS dX12_begin_14
set_option maxHeartbeats 4000000 in
set_option maxRecDepth 100000 in
theorem k_X12_sing_x (l : Launch) (D : va_G) (cy : Nat → ClassId) (ld : Nat → Nat) (t : tk_T) (a0 : Nat) (p1 : Int32) (g0 : Int32) (g15 : Int32) (ht_a0 : t a0 = (13, 0, 0)) (hp_0 : 0 ≤ g0.toInt) (hp_1 : g0.toInt ≤ 400) (hp_2 : (-2147483648) ≤ g15.toInt) (hp_3 : g15.toInt ≤ 2147483647) : Met l yX12_sing (wl yX12_sing cX12_sing 2 (some .int)) ({ frames := 8, cells := 0, slots := 0, locals := 490 }) (tp D cy ld t [] [.ref a0, .int p1] (fun H => tk_f D H a0 12 13 (.int g0) ∧ tk_f D H a0 12 15 (.int g15))) (ti D cy ld t [] (fun r H => tk_f D H a0 12 13 (.int g0) ∧ tk_f D H a0 12 15 (.int g15)) (tk_w t [(20, 0, 0), (12, 0, 0), (9, 0, 0), (2, 0, 0), (20, 1, 1), (10, 1, 1), (10, 0, 0), (13, 0, 0)])) 0 0 (tk_w t [(20, 0, 0), (12, 0, 0), (9, 0, 0), (2, 0, 0), (20, 1, 1), (10, 1, 1), (10, 0, 0), (13, 0, 0)]) := by
  refine tk_met (y := yX12_sing) (cc := cX12_sing) (maxL := 2) (ret := (some .int)) (av := [.ref a0, .int p1]) _ _ (by decide) (Nat.le_of_ble_eq_true rfl) ?_
  intro p e s m args below meth c hx hb hr hml hts htl hown hlocks hK H locs hH hG hS hB hZ ls hl
  have hown : s.vm.findClass RX12 = some m.cls := hown
  have hl : lv_has ls 2 [(0, .ref a0), (1, .int p1)] := hl
  obtain ⟨hg_0, hg_1⟩ := hB
  have hr_p1 := tk_rng p1
  refine lv_aload_n hx hb dX12_sing_0 rfl (lv_at hl 0 rfl) ?_
  refine lv_aload_n hx hb dX12_sing_1 rfl (lv_at hl 0 rfl) ?_
  refine tk_get (ci := 12) (C := RX12) (T := TX12) (N := 17) (sp := (6, 2, 0, 0)) hx hb htl inX12 hown hK hG ht_a0 (by decide) tk_no rfl 4 (by decide) (htl _ mw_26) (fun _ h9 => h9) rfl dX12_sing_2 (fun v9 hf1 hV9 => ?_)
  obtain ⟨b2, rfl, ht_b2⟩ := hV9
  have ht_b2 : t b2 = (2, 0, 0) := ht_b2
  refine lv_iload_n hx hb dX12_sing_5 rfl (lv_at hl 1 rfl) ?_
  refine tk_Vi (As := [.int p1]) (rest := [.ref a0]) (ci := 1) ⟨hx, hb, hml, hown, hts⟩ hK hG hZ hS (k_X1_singVerse l D cy ld t b2 p1 ht_b2) trivial ⟨callB_of 1 hts (wl_in mw_896) rfl rfl rfl (htl _ mw_25) (htl _ mw_1243) hd_yX1_singVerse ⟨(Nat.le_of_ble_eq_true rfl), (Nat.le_of_ble_eq_true rfl)⟩, htl _ mw_894, htl _ mw_895⟩ ht_b2 (by decide) tk_no rfl (tk_w.pick [0, 1, 2, 3, 4, 5, 6] rfl) rfl hl.1 rfl (Nat.le_of_ble_eq_true rfl) dX12_sing_6 ⟨(Nat.le_of_ble_eq_true rfl), (Nat.le_of_ble_eq_true rfl)⟩ (fun v3 H locs hpo hG hS hq9 => ?_)
  have hg_0 := hg_0.call hq9 (tk_w.no ht_a0 (by decide))
  have hg_1 := hg_1.call hq9 (tk_w.no ht_a0 (by decide))
  refine tk_Vi (As := [.int v3]) (rest := []) (ci := 12) ⟨hx, hb, hml, hown, hts⟩ hK hG hZ hS (k_X12_tell_x l D cy ld t a0 v3 g0 g15 ht_a0 (by omega) (by omega) (by omega) (by omega)) ⟨hg_0, hg_1⟩ ⟨callB_of 1 hts (wl_in mw_271) rfl rfl rfl (htl _ mw_2) (htl _ mw_268) hd_yX12_tell ⟨(Nat.le_of_ble_eq_true rfl), (Nat.le_of_ble_eq_true rfl)⟩, htl _ mw_269, htl _ mw_270⟩ ht_a0 (by decide) tk_no rfl (tk_w.pick [7, 0] rfl) rfl hl.1 rfl (Nat.le_of_ble_eq_true rfl) dX12_sing_9 ⟨(Nat.le_of_ble_eq_true rfl), (Nat.le_of_ble_eq_true rfl)⟩ (fun v5 H locs hpo hG hS hq9 => ?_)
  obtain ⟨hpo7, hf8, hf9⟩ := hpo
  exact tk_iret (v := v5) hx hb hr rfl hlocks (show tk_f D H a0 12 13 (.int g0) ∧ tk_f D H a0 12 15 (.int g15) from ⟨hf8, hf9⟩) hG hS dX12_sing_12
set_option maxHeartbeats 4000000 in
set_option maxRecDepth 100000 in
theorem k_X12_part_x (l : Launch) (D : va_G) (cy : Nat → ClassId) (ld : Nat → Nat) (t : tk_T) (a0 : Nat) (g0 : Int32) (g15 : Int32) (ht_a0 : t a0 = (13, 0, 0)) (hp_0 : 0 ≤ g0.toInt) (hp_1 : g0.toInt ≤ 400) (hp_2 : (-2147483648) ≤ g15.toInt) (hp_3 : g15.toInt ≤ 2147483647) : Met l yX12_part (wl yX12_part cX12_part 1 (some .int)) ({ frames := 7, cells := 0, slots := 0, locals := 420 }) (tp D cy ld t [] [.ref a0] (fun H => tk_f D H a0 12 13 (.int g0) ∧ tk_f D H a0 12 15 (.int g15))) (ti D cy ld t [] (fun r H => tk_f D H a0 12 13 (.int g0) ∧ tk_f D H a0 12 15 (.int g15)) (tk_w t [(2, 0, 0), (20, 1, 1), (10, 1, 1), (20, 0, 0), (10, 0, 0), (13, 0, 0)])) 0 0 (tk_w t [(2, 0, 0), (20, 1, 1), (10, 1, 1), (20, 0, 0), (10, 0, 0), (13, 0, 0)]) := by
  refine tk_met (y := yX12_part) (cc := cX12_part) (maxL := 1) (ret := (some .int)) (av := [.ref a0]) _ _ (by decide) (Nat.le_of_ble_eq_true rfl) ?_
  intro p e s m args below meth c hx hb hr hml hts htl hown hlocks hK H locs hH hG hS hB hZ ls hl
  have hown : s.vm.findClass RX12 = some m.cls := hown
  have hl : lv_has ls 1 [(0, .ref a0)] := hl
  obtain ⟨hg_0, hg_1⟩ := hB
  refine lv_aload_n hx hb dX12_part_0 rfl (lv_at hl 0 rfl) ?_
  refine lv_aload_n hx hb dX12_part_1 rfl (lv_at hl 0 rfl) ?_
  refine tk_get (ci := 12) (C := RX12) (T := TX12) (N := 17) (sp := (6, 2, 0, 0)) hx hb htl inX12 hown hK hG ht_a0 (by decide) tk_no rfl 4 (by decide) (htl _ mw_26) (fun _ h9 => h9) rfl dX12_part_2 (fun v9 hf1 hV9 => ?_)
  obtain ⟨b2, rfl, ht_b2⟩ := hV9
  have ht_b2 : t b2 = (2, 0, 0) := ht_b2
  refine tk_Vi (As := []) (rest := [.ref a0]) (ci := 1) ⟨hx, hb, hml, hown, hts⟩ hK hG hZ hS (k_X1_leaveDuel l D cy ld t b2 ht_b2) trivial ⟨callB_of 0 hts (wl_in mw_984) rfl rfl rfl (htl _ mw_25) (htl _ mw_1252) hd_yX1_leaveDuel ⟨(Nat.le_of_ble_eq_true rfl), (Nat.le_of_ble_eq_true rfl)⟩, htl _ mw_982, htl _ mw_983⟩ ht_b2 (by decide) tk_no rfl (tk_w.pick [0, 1, 2, 3, 4] rfl) rfl hl.1 rfl (Nat.le_of_ble_eq_true rfl) dX12_part_5 ⟨(Nat.le_of_ble_eq_true rfl), (Nat.le_of_ble_eq_true rfl)⟩ (fun v3 H locs hpo hG hS hq9 => ?_)
  have hg_0 := hg_0.call hq9 (tk_w.no ht_a0 (by decide))
  have hg_1 := hg_1.call hq9 (tk_w.no ht_a0 (by decide))
  refine tk_Vi (As := [.int v3]) (rest := []) (ci := 12) ⟨hx, hb, hml, hown, hts⟩ hK hG hZ hS (k_X12_tell_x l D cy ld t a0 v3 g0 g15 ht_a0 (by omega) (by omega) (by omega) (by omega)) ⟨hg_0, hg_1⟩ ⟨callB_of 1 hts (wl_in mw_271) rfl rfl rfl (htl _ mw_2) (htl _ mw_268) hd_yX12_tell ⟨(Nat.le_of_ble_eq_true rfl), (Nat.le_of_ble_eq_true rfl)⟩, htl _ mw_269, htl _ mw_270⟩ ht_a0 (by decide) tk_no rfl (tk_w.pick [5, 3] rfl) rfl hl.1 rfl (Nat.le_of_ble_eq_true rfl) dX12_part_8 ⟨(Nat.le_of_ble_eq_true rfl), (Nat.le_of_ble_eq_true rfl)⟩ (fun v5 H locs hpo hG hS hq9 => ?_)
  obtain ⟨hpo7, hf8, hf9⟩ := hpo
  exact tk_iret (v := v5) hx hb hr rfl hlocks (show tk_f D H a0 12 13 (.int g0) ∧ tk_f D H a0 12 15 (.int g15) from ⟨hf8, hf9⟩) hG hS dX12_part_11
set_option maxHeartbeats 4000000 in
set_option maxRecDepth 100000 in
theorem k_X12_dawn_x (l : Launch) (D : va_G) (cy : Nat → ClassId) (ld : Nat → Nat) (t : tk_T) (a0 : Nat) (g0 : Int32) (g15 : Int32) (ht_a0 : t a0 = (13, 0, 0)) (hp_0 : 0 ≤ g0.toInt) (hp_1 : g0.toInt ≤ 400) (hp_2 : (-2147483648) ≤ g15.toInt) (hp_3 : g15.toInt ≤ 2147483647) : Met l yX12_dawn (wl yX12_dawn cX12_dawn 1 (some .int)) ({ frames := 8, cells := 0, slots := 0, locals := 490 }) (tp D cy ld t [] [.ref a0] (fun H => tk_f D H a0 12 13 (.int g0) ∧ tk_f D H a0 12 15 (.int g15))) (ti D cy ld t [] (fun r H => tk_f D H a0 12 13 (.int g0) ∧ tk_f D H a0 12 15 (.int g15)) (tk_w t [(2, 0, 0), (20, 1, 1), (10, 1, 1), (20, 0, 0), (10, 0, 0), (12, 0, 0), (9, 0, 0), (13, 0, 0)])) 0 0 (tk_w t [(2, 0, 0), (20, 1, 1), (10, 1, 1), (20, 0, 0), (10, 0, 0), (12, 0, 0), (9, 0, 0), (13, 0, 0)]) := by
  refine tk_met (y := yX12_dawn) (cc := cX12_dawn) (maxL := 1) (ret := (some .int)) (av := [.ref a0]) _ _ (by decide) (Nat.le_of_ble_eq_true rfl) ?_
  intro p e s m args below meth c hx hb hr hml hts htl hown hlocks hK H locs hH hG hS hB hZ ls hl
  have hown : s.vm.findClass RX12 = some m.cls := hown
  have hl : lv_has ls 1 [(0, .ref a0)] := hl
  obtain ⟨hg_0, hg_1⟩ := hB
  refine lv_aload_n hx hb dX12_dawn_0 rfl (lv_at hl 0 rfl) ?_
  refine lv_aload_n hx hb dX12_dawn_1 rfl (lv_at hl 0 rfl) ?_
  refine tk_get (ci := 12) (C := RX12) (T := TX12) (N := 17) (sp := (6, 2, 0, 0)) hx hb htl inX12 hown hK hG ht_a0 (by decide) tk_no rfl 4 (by decide) (htl _ mw_26) (fun _ h9 => h9) rfl dX12_dawn_2 (fun v9 hf1 hV9 => ?_)
  obtain ⟨b2, rfl, ht_b2⟩ := hV9
  have ht_b2 : t b2 = (2, 0, 0) := ht_b2
  refine tk_Vi (As := []) (rest := [.ref a0]) (ci := 1) ⟨hx, hb, hml, hown, hts⟩ hK hG hZ hS (k_X1_nextDay l D cy ld t b2 ht_b2) trivial ⟨callB_of 0 hts (wl_in mw_990) rfl rfl rfl (htl _ mw_25) (htl _ mw_1261) hd_yX1_nextDay ⟨(Nat.le_of_ble_eq_true rfl), (Nat.le_of_ble_eq_true rfl)⟩, htl _ mw_988, htl _ mw_989⟩ ht_b2 (by decide) tk_no rfl (tk_w.pick [0, 1, 2, 3, 4, 5, 6] rfl) rfl hl.1 rfl (Nat.le_of_ble_eq_true rfl) dX12_dawn_5 ⟨(Nat.le_of_ble_eq_true rfl), (Nat.le_of_ble_eq_true rfl)⟩ (fun v3 H locs hpo hG hS hq9 => ?_)
  have hg_0 := hg_0.call hq9 (tk_w.no ht_a0 (by decide))
  have hg_1 := hg_1.call hq9 (tk_w.no ht_a0 (by decide))
  refine tk_Vi (As := [.int v3]) (rest := []) (ci := 12) ⟨hx, hb, hml, hown, hts⟩ hK hG hZ hS (k_X12_tell_x l D cy ld t a0 v3 g0 g15 ht_a0 (by omega) (by omega) (by omega) (by omega)) ⟨hg_0, hg_1⟩ ⟨callB_of 1 hts (wl_in mw_271) rfl rfl rfl (htl _ mw_2) (htl _ mw_268) hd_yX12_tell ⟨(Nat.le_of_ble_eq_true rfl), (Nat.le_of_ble_eq_true rfl)⟩, htl _ mw_269, htl _ mw_270⟩ ht_a0 (by decide) tk_no rfl (tk_w.pick [7, 3] rfl) rfl hl.1 rfl (Nat.le_of_ble_eq_true rfl) dX12_dawn_8 ⟨(Nat.le_of_ble_eq_true rfl), (Nat.le_of_ble_eq_true rfl)⟩ (fun v5 H locs hpo hG hS hq9 => ?_)
  obtain ⟨hpo7, hf8, hf9⟩ := hpo
  exact tk_iret (v := v5) hx hb hr rfl hlocks (show tk_f D H a0 12 13 (.int g0) ∧ tk_f D H a0 12 15 (.int g15) from ⟨hf8, hf9⟩) hG hS dX12_dawn_11
set_option maxHeartbeats 4000000 in
set_option maxRecDepth 100000 in
theorem k_X12_undo_x (l : Launch) (D : va_G) (cy : Nat → ClassId) (ld : Nat → Nat) (t : tk_T) (a0 : Nat) (g0 : Int32) (g15 : Int32) (ht_a0 : t a0 = (13, 0, 0)) (hp_0 : 0 ≤ g0.toInt) (hp_1 : g0.toInt ≤ 400) (hp_2 : (-2147483648) ≤ g15.toInt) (hp_3 : g15.toInt ≤ 2147483647) : Met l yX12_undo (wl yX12_undo cX12_undo 1 (some .int)) ({ frames := 6, cells := 0, slots := 0, locals := 350 }) (tp D cy ld t [] [.ref a0] (fun H => tk_f D H a0 12 13 (.int g0) ∧ tk_f D H a0 12 15 (.int g15))) (ti D cy ld t [] (fun r H => tk_f D H a0 12 13 (.int g0) ∧ tk_f D H a0 12 15 (.int g15)) (tk_w t [(2, 0, 0), (20, 0, 0), (10, 0, 0), (13, 0, 0)])) 0 0 (tk_w t [(2, 0, 0), (20, 0, 0), (10, 0, 0), (13, 0, 0)]) := by
  refine tk_met (y := yX12_undo) (cc := cX12_undo) (maxL := 1) (ret := (some .int)) (av := [.ref a0]) _ _ (by decide) (Nat.le_of_ble_eq_true rfl) ?_
  intro p e s m args below meth c hx hb hr hml hts htl hown hlocks hK H locs hH hG hS hB hZ ls hl
  have hown : s.vm.findClass RX12 = some m.cls := hown
  have hl : lv_has ls 1 [(0, .ref a0)] := hl
  obtain ⟨hg_0, hg_1⟩ := hB
  refine lv_aload_n hx hb dX12_undo_0 rfl (lv_at hl 0 rfl) ?_
  refine lv_aload_n hx hb dX12_undo_1 rfl (lv_at hl 0 rfl) ?_
  refine tk_get (ci := 12) (C := RX12) (T := TX12) (N := 17) (sp := (6, 2, 0, 0)) hx hb htl inX12 hown hK hG ht_a0 (by decide) tk_no rfl 4 (by decide) (htl _ mw_26) (fun _ h9 => h9) rfl dX12_undo_2 (fun v9 hf1 hV9 => ?_)
  obtain ⟨b2, rfl, ht_b2⟩ := hV9
  have ht_b2 : t b2 = (2, 0, 0) := ht_b2
  refine tk_Vi (As := []) (rest := [.ref a0]) (ci := 1) ⟨hx, hb, hml, hown, hts⟩ hK hG hZ hS (k_X1_takeBack l D cy ld t b2 ht_b2) trivial ⟨callB_of 0 hts (wl_in mw_1273) rfl rfl rfl (htl _ mw_25) (htl _ mw_1270) hd_yX1_takeBack ⟨(Nat.le_of_ble_eq_true rfl), (Nat.le_of_ble_eq_true rfl)⟩, htl _ mw_1271, htl _ mw_1272⟩ ht_b2 (by decide) tk_no rfl (tk_w.pick [0, 1, 2] rfl) rfl hl.1 rfl (Nat.le_of_ble_eq_true rfl) dX12_undo_5 ⟨(Nat.le_of_ble_eq_true rfl), (Nat.le_of_ble_eq_true rfl)⟩ (fun v3 H locs hpo hG hS hq9 => ?_)
  have hg_0 := hg_0.call hq9 (tk_w.no ht_a0 (by decide))
  have hg_1 := hg_1.call hq9 (tk_w.no ht_a0 (by decide))
  refine tk_Vi (As := [.int v3]) (rest := []) (ci := 12) ⟨hx, hb, hml, hown, hts⟩ hK hG hZ hS (k_X12_tell_x l D cy ld t a0 v3 g0 g15 ht_a0 (by omega) (by omega) (by omega) (by omega)) ⟨hg_0, hg_1⟩ ⟨callB_of 1 hts (wl_in mw_271) rfl rfl rfl (htl _ mw_2) (htl _ mw_268) hd_yX12_tell ⟨(Nat.le_of_ble_eq_true rfl), (Nat.le_of_ble_eq_true rfl)⟩, htl _ mw_269, htl _ mw_270⟩ ht_a0 (by decide) tk_no rfl (tk_w.pick [3, 1] rfl) rfl hl.1 rfl (Nat.le_of_ble_eq_true rfl) dX12_undo_8 ⟨(Nat.le_of_ble_eq_true rfl), (Nat.le_of_ble_eq_true rfl)⟩ (fun v5 H locs hpo hG hS hq9 => ?_)
  obtain ⟨hpo7, hf8, hf9⟩ := hpo
  exact tk_iret (v := v5) hx hb hr rfl hlocks (show tk_f D H a0 12 13 (.int g0) ∧ tk_f D H a0 12 15 (.int g15) from ⟨hf8, hf9⟩) hG hS dX12_undo_11
set_option maxHeartbeats 4000000 in
set_option maxRecDepth 100000 in
theorem k_X3_joinMore_4_x (l : Launch) (D : va_G) (cy : Nat → ClassId) (ld : Nat → Nat) (t : tk_T) (a0 : Nat) (p2 : Int32) (p3 : Int32) (p4 : Int32) (LL : Int) (bj bb : Nat) (bl bs : Int32) (J B : Nat → Int32) (n0 n1 n2 n3 : Int32) (fh fs fk q1 q2 q3 : Nat → Int32) (ht_a0 : t a0 = (4, 0, 0)) (ht_bj : t bj = (22, 4, 0)) (ht_bb : t bb = (20, 4, 0)) (ht_ld20 : t (ld 20) = (3, 0, 0)) (ht_ld70 : t (ld 70) = (32, 8, 0)) (ht_ld80 : t (ld 80) = (33, 10, 0)) (ht_ld90 : t (ld 90) = (34, 10, 0)) (ht_ld100 : t (ld 100) = (35, 10, 0)) (ht_ld110 : t (ld 110) = (36, 10, 0)) (ht_ld120 : t (ld 120) = (37, 10, 0)) (hp_0 : 0 ≤ p3.toInt) (hp_1 : p3.toInt ≤ 408) (hp_2 : 0 ≤ p4.toInt) (hp_3 : p4.toInt ≤ 36) (hp_4 : 0 ≤ bl.toInt) (hp_5 : bl.toInt ≤ 4) (hp_6 : 0 ≤ n0.toInt) (hp_7 : n0.toInt ≤ 8) (hp_8 : 0 ≤ n1.toInt) (hp_9 : n1.toInt ≤ 10) (hp_10 : 0 ≤ n2.toInt) (hp_11 : n2.toInt ≤ 10) (hp_12 : 0 ≤ n3.toInt) (hp_13 : n3.toInt ≤ 8) (hqr : ∀ j : Nat, (j : Int) < n2.toInt → (1 ≤ (q1 j).toInt ∧ (q1 j).toInt ≤ 99) ∧ 1 ≤ (q3 j).toInt ∧ (q3 j).toInt ≤ 9) (hmu : mU n2.toInt LL (mq n2.toInt q1) (mq n2.toInt q2) (mq n2.toInt q3) 4 J p2 p3 p4) : Met l yX3_joinMore (wl yX3_joinMore cX3_joinMore 8 none) ({ frames := 4, cells := 0, slots := 0, locals := 210 }) (tp D cy ld t [] [.ref a0, .int 4, .int p2, .int p3, .int p4] (fun H => jM D a0 bj bb bl bs J B H ∧ jC D ld (ld 20) 0 n0 n1 n2 n3 fh fs fk q1 q2 q3 H)) (tv D cy ld t [] (fun H => (∃ (bl9 bs9 : Int32) (J9 B9 : Nat → Int32), jM D a0 bj bb bl9 bs9 J9 B9 H ∧ (0 ≤ bl9.toInt ∧ bl9.toInt ≤ 4) ∧ mAg 4 J9 J ∧ mP4 (mq n2.toInt q1) (mq n2.toInt q2) J (bs.toInt, bl.toInt, B) (bs9.toInt, bl9.toInt, B9)) ∧ jC D ld (ld 20) 0 n0 n1 n2 n3 fh fs fk q1 q2 q3 H) (tk_w t [(4, 0, 0), (20, 0, 0)])) 0 0 (tk_w t [(4, 0, 0), (20, 0, 0)]) := by
  refine tk_met (y := yX3_joinMore) (cc := cX3_joinMore) (maxL := 8) (ret := none) (av := [.ref a0, .int 4, .int p2, .int p3, .int p4]) _ _ (by decide) (Nat.le_of_ble_eq_true rfl) ?_
  intro p e s m args below meth c hx hb hr hml hts htl hown hlocks hK H locs hH hG hS hB hZ ls hl
  have hown : s.vm.findClass RX3 = some m.cls := hown
  have hl : lv_has ls 8 [(0, .ref a0), (1, .int 4), (2, .int p2), (3, .int p3), (4, .int p4)] := hl
  obtain ⟨⟨hj0_0, hj0_1, hj0_2, hj0_3, hj0_4, hj0_5⟩, ⟨hj1_0, hj1_1, hj1_2, hj1_3, hj1_4, hj1_5, hj1_6, hj1_7, hj1_8, hj1_9⟩⟩ := hB
  have hr_p2 := tk_rng p2
  have hr_p3 := tk_rng p3
  have hr_p4 := tk_rng p4
  refine lv_iload_n hx hb dX3_joinMore_0 rfl (lv_at hl 1 rfl) ?_
  refine lv_if_le (tgt := 36) hx hb dX3_joinMore_1 (by decide) (fun c9 => absurd c9 (by decide)) (fun _ => ?_)
  refine lv_iload_n hx hb dX3_joinMore_4 rfl (lv_at hl 3 rfl) ?_
  refine lv_aload_n hx hb dX3_joinMore_5 rfl (lv_at hl 0 rfl) ?_
  refine tk_getk (ci := 3) (C := RX3) (T := TX3) (N := 5) (sp := (0, (-2147483648), 2147483647, 0)) hx hb htl inX3 hown hK hG ht_a0 (by decide) tk_no rfl 4 (by decide) (htl _ mw_1456) (fun _ h9 => h9) rfl hj0_3 dX3_joinMore_6 ?_
  refine lv_icmp_le (tgt := 36) hx hb dX3_joinMore_9 (by decide) (fun c9 => ?_) (fun c9 => ?_)
  · have hc1 : p3.toInt ≤ bs.toInt := (fi_le rfl rfl).mp c9
    refine lv_iload_n hx hb dX3_joinMore_36 rfl (lv_at hl 1 rfl) ?_
    refine lv_iconst (v := 4) hx hb dX3_joinMore_37 (by decide) ?_
    refine lv_icmp_lt (tgt := 42) hx hb dX3_joinMore_38 (by decide) (fun c9 => absurd c9 (by decide)) (fun _ => ?_)
    exact tk_vret hx hb hr hlocks (show (∃ (bl9 bs9 : Int32) (J9 B9 : Nat → Int32), jM D a0 bj bb bl9 bs9 J9 B9 H ∧ (0 ≤ bl9.toInt ∧ bl9.toInt ≤ 4) ∧ mAg 4 J9 J ∧ mP4 (mq n2.toInt q1) (mq n2.toInt q2) J (bs.toInt, bl.toInt, B) (bs9.toInt, bl9.toInt, B9)) ∧ jC D ld (ld 20) 0 n0 n1 n2 n3 fh fs fk q1 q2 q3 H from ⟨⟨bl, bs, J, B, ⟨hj0_0, hj0_1, hj0_2, hj0_3, hj0_4, hj0_5⟩, ⟨by omega, by omega⟩, (mAg.refl _ _), (mP4_n (by have h7 := hmu.2.2.1; show _ ≤ bs.toInt; omega))⟩, ⟨hj1_0, hj1_1, hj1_2, hj1_3, hj1_4, hj1_5, hj1_6, hj1_7, hj1_8, hj1_9⟩⟩) hG hS dX3_joinMore_41
  · have hc1 : ¬ (p3.toInt ≤ bs.toInt) := fun h9 => c9 ((fi_le rfl rfl).mpr h9)
    refine lv_aload_n hx hb dX3_joinMore_12 rfl (lv_at hl 0 rfl) ?_
    refine lv_iload_n hx hb dX3_joinMore_13 rfl (lv_at hl 3 rfl) ?_
    refine tk_put (ci := 3) (v := .int p3) (ty := .int) (C := RX3) (T := TX3) (N := 5) (sp := (0, (-2147483648), 2147483647, 0)) hx hb htl inX3 tyX3 tyX3_ok nmX3 hown hK hG hS ht_a0 (by decide) tk_no rfl 4 (by decide) (htl _ mw_1456) (fun _ h9 => h9) rfl (tyX3_ok 4 (by decide)) rfl rfl rfl (tk_V0 (tk_rng _).1 (tk_rng _).2) (fun _ h => h) (tk_w.of ht_a0 (by decide) (List.mem_of_getElem? (i := 0) rfl) (Nat.le_refl _) (Nat.le_refl _)) dX3_joinMore_14 (fun H locs hG hS hf2 hq9 hj9 => ?_)
    have hj0_0 := hj9 1 _ (by decide) (by decide) hj0_0
    have hj0_1 := hj9 2 _ (by decide) (by decide) hj0_1
    have hj0_2 := hj9 3 _ (by decide) (by decide) hj0_2
    have hj0_4 := hj0_4.kept (hq9 _ (tk_ne ht_bj ht_a0 (Or.inl (by decide))))
    have hj0_5 := hj0_5.kept (hq9 _ (tk_ne ht_bb ht_a0 (Or.inl (by decide))))
    have hj1_0 := hj1_0.kept (hq9 _ (tk_ne ht_ld20 ht_a0 (Or.inl (by decide))))
    have hj1_1 := hj1_1.kept (hq9 _ (tk_ne ht_ld20 ht_a0 (Or.inl (by decide))))
    have hj1_2 := hj1_2.kept (hq9 _ (tk_ne ht_ld20 ht_a0 (Or.inl (by decide))))
    have hj1_3 := hj1_3.kept (hq9 _ (tk_ne ht_ld20 ht_a0 (Or.inl (by decide))))
    have hj1_4 := hj1_4.kept (hq9 _ (tk_ne ht_ld70 ht_a0 (Or.inl (by decide))))
    have hj1_5 := hj1_5.kept (hq9 _ (tk_ne ht_ld80 ht_a0 (Or.inl (by decide))))
    have hj1_6 := hj1_6.kept (hq9 _ (tk_ne ht_ld90 ht_a0 (Or.inl (by decide))))
    have hj1_7 := hj1_7.kept (hq9 _ (tk_ne ht_ld100 ht_a0 (Or.inl (by decide))))
    have hj1_8 := hj1_8.kept (hq9 _ (tk_ne ht_ld110 ht_a0 (Or.inl (by decide))))
    have hj1_9 := hj1_9.kept (hq9 _ (tk_ne ht_ld120 ht_a0 (Or.inl (by decide))))
    refine lv_aload_n hx hb dX3_joinMore_17 rfl (lv_at hl 0 rfl) ?_
    refine lv_iload_n hx hb dX3_joinMore_18 rfl (lv_at hl 1 rfl) ?_
    refine tk_put (ci := 3) (v := .int 4) (ty := .int) (C := RX3) (T := TX3) (N := 5) (sp := (0, 0, 4, 0)) hx hb htl inX3 tyX3 tyX3_ok nmX3 hown hK hG hS ht_a0 (by decide) tk_no rfl 3 (by decide) (htl _ mw_1455) (fun _ h9 => h9) rfl (tyX3_ok 3 (by decide)) rfl rfl rfl (tk_V0 (by decide) (by decide)) (fun _ h => h) (tk_w.of ht_a0 (by decide) (List.mem_of_getElem? (i := 0) rfl) (Nat.le_refl _) (Nat.le_refl _)) dX3_joinMore_19 (fun H locs hG hS hf4 hq9 hj9 => ?_)
    have hj0_0 := hj9 1 _ (by decide) (by decide) hj0_0
    have hj0_1 := hj9 2 _ (by decide) (by decide) hj0_1
    have hj0_4 := hj0_4.kept (hq9 _ (tk_ne ht_bj ht_a0 (Or.inl (by decide))))
    have hj0_5 := hj0_5.kept (hq9 _ (tk_ne ht_bb ht_a0 (Or.inl (by decide))))
    have hj1_0 := hj1_0.kept (hq9 _ (tk_ne ht_ld20 ht_a0 (Or.inl (by decide))))
    have hj1_1 := hj1_1.kept (hq9 _ (tk_ne ht_ld20 ht_a0 (Or.inl (by decide))))
    have hj1_2 := hj1_2.kept (hq9 _ (tk_ne ht_ld20 ht_a0 (Or.inl (by decide))))
    have hj1_3 := hj1_3.kept (hq9 _ (tk_ne ht_ld20 ht_a0 (Or.inl (by decide))))
    have hj1_4 := hj1_4.kept (hq9 _ (tk_ne ht_ld70 ht_a0 (Or.inl (by decide))))
    have hj1_5 := hj1_5.kept (hq9 _ (tk_ne ht_ld80 ht_a0 (Or.inl (by decide))))
    have hj1_6 := hj1_6.kept (hq9 _ (tk_ne ht_ld90 ht_a0 (Or.inl (by decide))))
    have hj1_7 := hj1_7.kept (hq9 _ (tk_ne ht_ld100 ht_a0 (Or.inl (by decide))))
    have hj1_8 := hj1_8.kept (hq9 _ (tk_ne ht_ld110 ht_a0 (Or.inl (by decide))))
    have hj1_9 := hj1_9.kept (hq9 _ (tk_ne ht_ld120 ht_a0 (Or.inl (by decide))))
    have hf2 := hj9 4 _ (by decide) (by decide) hf2
    refine lv_aload_n hx hb dX3_joinMore_22 rfl (lv_at hl 0 rfl) ?_
    refine tk_getk (ci := 3) (C := RX3) (T := TX3) (N := 5) (sp := (6, 22, 4, 0)) hx hb htl inX3 hown hK hG ht_a0 (by decide) tk_no rfl 1 (by decide) (htl _ mw_173) (fun _ h9 => h9) rfl hj0_0 dX3_joinMore_23 ?_
    refine lv_iconst (v := 0) hx hb dX3_joinMore_26 (by decide) ?_
    refine lv_aload_n hx hb dX3_joinMore_27 rfl (lv_at hl 0 rfl) ?_
    refine tk_getk (ci := 3) (C := RX3) (T := TX3) (N := 5) (sp := (6, 20, 4, 0)) hx hb htl inX3 hown hK hG ht_a0 (by decide) tk_no rfl 2 (by decide) (htl _ mw_174) (fun _ h9 => h9) rfl hj0_1 dX3_joinMore_28 ?_
    refine lv_iconst (v := 0) hx hb dX3_joinMore_31 (by decide) ?_
    refine lv_iconst (v := 4) hx hb dX3_joinMore_32 (by decide) ?_
    refine tk_copyC (SP := 0) (DP := 0) (NC := 4) hx hb (by rw [hml]; exact hl.1.symm) hown (htl _ mw_1461) (htl _ mw_655) (htl _ mw_656) (htl _ mw_657) hK hG hS ht_bj ht_bb (by decide) (by decide) (fun _ h => h) (fun _ => Iff.rfl) tk_no tk_no (show (0 : Int32).toInt = 0 by decide) (show (0 : Int32).toInt = 0 by decide) (show (4 : Int32).toInt = 4 by decide) (by decide) (by decide) (by decide) (by decide) (by decide) (fun _ _ _ _ _ => trivial) (tk_w.of ht_bb (by decide) (List.mem_of_getElem? (i := 1) rfl) (Nat.le_refl _) (Nat.le_refl _)) (Nat.le_of_ble_eq_true rfl) (Nat.le_of_ble_eq_true rfl) dX3_joinMore_33 hj0_4 rfl rfl rfl (fun H locs hG hS hq9 hj7 => ?_)
    have hj0_0 := hj0_0.kept (hq9 _ (tk_ne ht_a0 ht_bb (Or.inl (by decide))))
    have hj0_1 := hj0_1.kept (hq9 _ (tk_ne ht_a0 ht_bb (Or.inl (by decide))))
    have hj0_4 := hj0_4.kept (hq9 _ (tk_ne ht_bj ht_bb (Or.inl (by decide))))
    have hj1_0 := hj1_0.kept (hq9 _ (tk_ne ht_ld20 ht_bb (Or.inl (by decide))))
    have hj1_1 := hj1_1.kept (hq9 _ (tk_ne ht_ld20 ht_bb (Or.inl (by decide))))
    have hj1_2 := hj1_2.kept (hq9 _ (tk_ne ht_ld20 ht_bb (Or.inl (by decide))))
    have hj1_3 := hj1_3.kept (hq9 _ (tk_ne ht_ld20 ht_bb (Or.inl (by decide))))
    have hj1_4 := hj1_4.kept (hq9 _ (tk_ne ht_ld70 ht_bb (Or.inl (by decide))))
    have hj1_5 := hj1_5.kept (hq9 _ (tk_ne ht_ld80 ht_bb (Or.inl (by decide))))
    have hj1_6 := hj1_6.kept (hq9 _ (tk_ne ht_ld90 ht_bb (Or.inl (by decide))))
    have hj1_7 := hj1_7.kept (hq9 _ (tk_ne ht_ld100 ht_bb (Or.inl (by decide))))
    have hj1_8 := hj1_8.kept (hq9 _ (tk_ne ht_ld110 ht_bb (Or.inl (by decide))))
    have hj1_9 := hj1_9.kept (hq9 _ (tk_ne ht_ld120 ht_bb (Or.inl (by decide))))
    have hf2 := hf2.kept (hq9 _ (tk_ne ht_a0 ht_bb (Or.inl (by decide))))
    have hf4 := hf4.kept (hq9 _ (tk_ne ht_a0 ht_bb (Or.inl (by decide))))
    refine lv_iload_n hx hb dX3_joinMore_36 rfl (lv_at hl 1 rfl) ?_
    refine lv_iconst (v := 4) hx hb dX3_joinMore_37 (by decide) ?_
    refine lv_icmp_lt (tgt := 42) hx hb dX3_joinMore_38 (by decide) (fun c9 => absurd c9 (by decide)) (fun _ => ?_)
    have hk_4 : (4 : Int32).toInt = 4 := by decide
    exact tk_vret hx hb hr hlocks (show (∃ (bl9 bs9 : Int32) (J9 B9 : Nat → Int32), jM D a0 bj bb bl9 bs9 J9 B9 H ∧ (0 ≤ bl9.toInt ∧ bl9.toInt ≤ 4) ∧ mAg 4 J9 J ∧ mP4 (mq n2.toInt q1) (mq n2.toInt q2) J (bs.toInt, bl.toInt, B) (bs9.toInt, bl9.toInt, B9)) ∧ jC D ld (ld 20) 0 n0 n1 n2 n3 fh fs fk q1 q2 q3 H from ⟨⟨4, p3, J, J, ⟨hj0_0, hj0_1, hf4, hf2, hj0_4, hj7⟩, ⟨by omega, by omega⟩, (mAg.refl _ _), (mP4_y hmu.2.2.1 (show bs.toInt < p3.toInt by omega) (by decide) (mAg.refl _ _))⟩, ⟨hj1_0, hj1_1, hj1_2, hj1_3, hj1_4, hj1_5, hj1_6, hj1_7, hj1_8, hj1_9⟩⟩) hG hS dX3_joinMore_41
set_option maxHeartbeats 4000000 in
set_option maxRecDepth 100000 in
theorem k_X3_joinMore_3_x (l : Launch) (D : va_G) (cy : Nat → ClassId) (ld : Nat → Nat) (t : tk_T) (a0 : Nat) (p2 : Int32) (p3 : Int32) (p4 : Int32) (LL : Int) (bj bb : Nat) (bl bs : Int32) (J B : Nat → Int32) (n0 n1 n2 n3 : Int32) (fh fs fk q1 q2 q3 : Nat → Int32) (ht_a0 : t a0 = (4, 0, 0)) (ht_bj : t bj = (22, 4, 0)) (ht_bb : t bb = (20, 4, 0)) (ht_ld20 : t (ld 20) = (3, 0, 0)) (ht_ld70 : t (ld 70) = (32, 8, 0)) (ht_ld80 : t (ld 80) = (33, 10, 0)) (ht_ld90 : t (ld 90) = (34, 10, 0)) (ht_ld100 : t (ld 100) = (35, 10, 0)) (ht_ld110 : t (ld 110) = (36, 10, 0)) (ht_ld120 : t (ld 120) = (37, 10, 0)) (hp_0 : 0 ≤ p3.toInt) (hp_1 : p3.toInt ≤ 306) (hp_2 : 0 ≤ p4.toInt) (hp_3 : p4.toInt ≤ 36) (hp_4 : 0 ≤ bl.toInt) (hp_5 : bl.toInt ≤ 4) (hp_6 : 0 ≤ n0.toInt) (hp_7 : n0.toInt ≤ 8) (hp_8 : 0 ≤ n1.toInt) (hp_9 : n1.toInt ≤ 10) (hp_10 : 0 ≤ n2.toInt) (hp_11 : n2.toInt ≤ 10) (hp_12 : 0 ≤ n3.toInt) (hp_13 : n3.toInt ≤ 8) (hqr : ∀ j : Nat, (j : Int) < n2.toInt → (1 ≤ (q1 j).toInt ∧ (q1 j).toInt ≤ 99) ∧ 1 ≤ (q3 j).toInt ∧ (q3 j).toInt ≤ 9) (hmu : mU n2.toInt LL (mq n2.toInt q1) (mq n2.toInt q2) (mq n2.toInt q3) 3 J p2 p3 p4) : Met l yX3_joinMore (wl yX3_joinMore cX3_joinMore 8 none) ({ frames := 5, cells := 0, slots := 0, locals := 280 }) (tp D cy ld t [] [.ref a0, .int 3, .int p2, .int p3, .int p4] (fun H => jM D a0 bj bb bl bs J B H ∧ jC D ld (ld 20) 0 n0 n1 n2 n3 fh fs fk q1 q2 q3 H)) (tv D cy ld t [] (fun H => (∃ (bl9 bs9 : Int32) (J9 B9 : Nat → Int32), jM D a0 bj bb bl9 bs9 J9 B9 H ∧ (0 ≤ bl9.toInt ∧ bl9.toInt ≤ 4) ∧ mAg 3 J9 J ∧ mP n2.toInt LL (mq n2.toInt q1) (mq n2.toInt q2) (mq n2.toInt q3) 3 J (bs.toInt, bl.toInt, B) (bs9.toInt, bl9.toInt, B9)) ∧ jC D ld (ld 20) 0 n0 n1 n2 n3 fh fs fk q1 q2 q3 H) (tk_w t [(22, 0, 0), (4, 0, 0), (20, 0, 0)])) 0 0 (tk_w t [(22, 0, 0), (4, 0, 0), (20, 0, 0)]) := by
  refine tk_met (y := yX3_joinMore) (cc := cX3_joinMore) (maxL := 8) (ret := none) (av := [.ref a0, .int 3, .int p2, .int p3, .int p4]) _ _ (by decide) (Nat.le_of_ble_eq_true rfl) ?_
  intro p e s m args below meth c hx hb hr hml hts htl hown hlocks hK H locs hH hG hS hB hZ ls hl
  have hown : s.vm.findClass RX3 = some m.cls := hown
  have hl : lv_has ls 8 [(0, .ref a0), (1, .int 3), (2, .int p2), (3, .int p3), (4, .int p4)] := hl
  obtain ⟨⟨hj0_0, hj0_1, hj0_2, hj0_3, hj0_4, hj0_5⟩, ⟨hj1_0, hj1_1, hj1_2, hj1_3, hj1_4, hj1_5, hj1_6, hj1_7, hj1_8, hj1_9⟩⟩ := hB
  have hr_p2 := tk_rng p2
  have hr_p3 := tk_rng p3
  have hr_p4 := tk_rng p4
  refine lv_iload_n hx hb dX3_joinMore_0 rfl (lv_at hl 1 rfl) ?_
  refine lv_if_le (tgt := 36) hx hb dX3_joinMore_1 (by decide) (fun c9 => absurd c9 (by decide)) (fun _ => ?_)
  refine lv_iload_n hx hb dX3_joinMore_4 rfl (lv_at hl 3 rfl) ?_
  refine lv_aload_n hx hb dX3_joinMore_5 rfl (lv_at hl 0 rfl) ?_
  refine tk_getk (ci := 3) (C := RX3) (T := TX3) (N := 5) (sp := (0, (-2147483648), 2147483647, 0)) hx hb htl inX3 hown hK hG ht_a0 (by decide) tk_no rfl 4 (by decide) (htl _ mw_1456) (fun _ h9 => h9) rfl hj0_3 dX3_joinMore_6 ?_
  refine lv_icmp_le (tgt := 36) hx hb dX3_joinMore_9 (by decide) (fun c9 => ?_) (fun c9 => ?_)
  · have hc1 : p3.toInt ≤ bs.toInt := (fi_le rfl rfl).mp c9
    refine lv_iload_n hx hb dX3_joinMore_36 rfl (lv_at hl 1 rfl) ?_
    refine lv_iconst (v := 4) hx hb dX3_joinMore_37 (by decide) ?_
    refine lv_icmp_lt (tgt := 42) hx hb dX3_joinMore_38 (by decide) (fun _ => ?_) (fun c9 => absurd (by decide) c9)
    refine lv_iconst (v := 0) hx hb dX3_joinMore_42 (by decide) ?_
    refine lv_istore (lv' := [(5, .int 0), (0, .ref a0), (1, .int 3), (2, .int p2), (3, .int p3), (4, .int p4)]) hx hb dX3_joinMore_43 hl (by decide) rfl (fun ls hl => ?_)
    have hl770 : ∀ (N_l770 : Nat) (v99 : Int32) (v100 : Int32) (v101 : Int32) (f102 : Nat → Int32) (f103 : Nat → Int32) (H : Heap) (locs : List Loc), v99.toInt ≤ 10 → 0 ≤ v99.toInt → 0 ≤ v100.toInt → v100.toInt ≤ 4 → (-1) * v99.toInt + 10 < (N_l770 : Int) → tk_G D cy ld t [] H → va_S (tk_w t [(22, 0, 0), (4, 0, 0), (20, 0, 0)]) s.heap H locs → tk_f D H a0 3 1 (.ref bj) → tk_f D H a0 3 2 (.ref bb) → tk_f D H a0 3 3 (.int v100) → tk_f D H a0 3 4 (.int v101) → tk_c H bj 4 f102 → tk_c H bb 4 f103 → tk_f D H (ld 20) 2 0 (.int n0) → tk_f D H (ld 20) 2 4 (.int n1) → tk_f D H (ld 20) 2 7 (.int n2) → tk_f D H (ld 20) 2 11 (.int n3) → tk_c H (ld 70) 8 fh → tk_c H (ld 80) 10 fs → tk_c H (ld 90) 10 fk → tk_c H (ld 100) 10 q1 → tk_c H (ld 110) 10 q2 → tk_c H (ld 120) 10 q3 → mI n2.toInt LL (mq n2.toInt q1) (mq n2.toInt q2) (mq n2.toInt q3) 3 J (bs.toInt, bl.toInt, B) v99.toInt (v101.toInt, v100.toInt, f103) → mAg 3 f102 J → ∀ ls : Array Slot, lv_has ls 8 [(5, .int v99), (0, .ref a0), (1, .int 3), (2, .int p2), (3, .int p3), (4, .int p4)] → W p l e ({ frames := 5, cells := 0, slots := 0, locals := 280 }) s m args below meth c H locs 0 0 (MQ below (tv D cy ld t [] (fun H => (∃ (bl9 bs9 : Int32) (J9 B9 : Nat → Int32), jM D a0 bj bb bl9 bs9 J9 B9 H ∧ (0 ≤ bl9.toInt ∧ bl9.toInt ≤ 4) ∧ mAg 3 J9 J ∧ mP n2.toInt LL (mq n2.toInt q1) (mq n2.toInt q2) (mq n2.toInt q3) 3 J (bs.toInt, bl.toInt, B) (bs9.toInt, bl9.toInt, B9)) ∧ jC D ld (ld 20) 0 n0 n1 n2 n3 fh fs fk q1 q2 q3 H) (tk_w t [(22, 0, 0), (4, 0, 0), (20, 0, 0)])) args s 0 0 (tk_w t [(22, 0, 0), (4, 0, 0), (20, 0, 0)])) (F0 m 45 ls []) := by
      intro N_l770
      induction N_l770 with
      | zero => intro v99 v100 v101 f102 f103 H locs hq0_l770 hq1_l770 hq2_l770 hq3_l770 hm_l770 hG hS hj0_0 hj0_1 hj0_2 hj0_3 hj0_4 hj0_5 hj1_0 hj1_1 hj1_2 hj1_3 hj1_4 hj1_5 hj1_6 hj1_7 hj1_8 hj1_9 hmI9 hag ls hl; exfalso; omega
      | succ N_l770 ih_l770 =>
        intro v99 v100 v101 f102 f103 H locs hq0_l770 hq1_l770 hq2_l770 hq3_l770 hm_l770 hG hS hj0_0 hj0_1 hj0_2 hj0_3 hj0_4 hj0_5 hj1_0 hj1_1 hj1_2 hj1_3 hj1_4 hj1_5 hj1_6 hj1_7 hj1_8 hj1_9 hmI9 hag ls hl
        refine lv_iload hx hb dX3_joinMore_45 (lv_at hl 0 rfl) ?_
        refine lv_aload_n hx hb dX3_joinMore_47 rfl (lv_at hl 1 rfl) ?_
        refine tk_get (ci := 3) (C := RX3) (T := TX3) (N := 5) (sp := (8, 20, 3, 0)) hx hb htl inX3 hown hK hG ht_a0 (by decide) tk_no rfl 0 (by decide) (htl _ mw_175) (fun _ h9 => h9) rfl dX3_joinMore_48 (fun v9 hf771 hV9 => ?_)
        obtain ⟨rfl, ht_ld20⟩ := hV9
        have ht_ld20 : t (ld 20) = (3, 0, 0) := ht_ld20
        refine fx_top (v := .ref (ld 20)) rfl ?_
        refine tk_getk (ci := 2) (C := RX2) (T := TX2) (N := 20) (sp := (0, 0, 10, 0)) hx hb htl inX2 hown hK hG ht_ld20 (by decide) tk_no rfl 7 (by decide) (htl _ mw_1462) (fun _ h9 => h9) rfl hj1_2 dX3_joinMore_51 ?_
        refine lv_icmp_ge (tgt := 188) hx hb dX3_joinMore_54 (by decide) (fun c9 => ?_) (fun c9 => ?_)
        · have hc772 : n2.toInt ≤ v99.toInt := (fi_le rfl rfl).mp c9
          exact tk_vret hx hb hr hlocks (show (∃ (bl9 bs9 : Int32) (J9 B9 : Nat → Int32), jM D a0 bj bb bl9 bs9 J9 B9 H ∧ (0 ≤ bl9.toInt ∧ bl9.toInt ≤ 4) ∧ mAg 3 J9 J ∧ mP n2.toInt LL (mq n2.toInt q1) (mq n2.toInt q2) (mq n2.toInt q3) 3 J (bs.toInt, bl.toInt, B) (bs9.toInt, bl9.toInt, B9)) ∧ jC D ld (ld 20) 0 n0 n1 n2 n3 fh fs fk q1 q2 q3 H from ⟨⟨v100, v101, f102, f103, ⟨hj0_0, hj0_1, hj0_2, hj0_3, hj0_4, hj0_5⟩, ⟨by omega, by omega⟩, hag, (mI_end hmI9 (by omega) (by omega) (by omega))⟩, ⟨hj1_0, hj1_1, hj1_2, hj1_3, hj1_4, hj1_5, hj1_6, hj1_7, hj1_8, hj1_9⟩⟩) hG hS dX3_joinMore_188
        · have hc772 : ¬ (n2.toInt ≤ v99.toInt) := fun h9 => c9 ((fi_le rfl rfl).mpr h9)
          refine lv_iload_n hx hb dX3_joinMore_57 rfl (lv_at hl 3 rfl) ?_
          refine lv_iload hx hb dX3_joinMore_58 (lv_at hl 0 rfl) ?_
          obtain ⟨v773, hm_v773⟩ : ∃ z : Int32, p2 >>> (v99 &&& 31) = z := ⟨_, rfl⟩
          refine lv_ishr hx hb dX3_joinMore_60 ?_
          refine fx_ti hm_v773 ?_
          have hq_v773 := tk_rng v773
          refine lv_iconst (v := 1) hx hb dX3_joinMore_61 (by decide) ?_
          obtain ⟨v774, hm_v774⟩ : ∃ z : Int32, v773 &&& (1 : Int32) = z := ⟨_, rfl⟩
          refine lv_iand hx hb dX3_joinMore_62 ?_
          refine fx_ti hm_v774 ?_
          have h_v774 : 0 ≤ v774.toInt ∧ v774.toInt ≤ 1 := hm_v774 ▸ tk_and v773 1 (by decide) (by decide)
          refine lv_if_ne (tgt := 182) hx hb dX3_joinMore_63 (by decide) (fun c9 => ?_) (fun c9 => ?_)
          · have hc775 : ¬ (v774.toInt = 0) := fun h9 => c9 ((fi_eq rfl (show (0 : Int32).toInt = 0 by decide)).mpr h9)
            obtain ⟨v776, h_v776, e_v776⟩ := tk_inc v99 1 (by decide) (by omega) (by omega)
            refine lv_iinc (v := v776) (lv' := [(5, .int v776), (0, .ref a0), (1, .int 3), (2, .int p2), (3, .int p3), (4, .int p4)]) hx hb dX3_joinMore_182 hl (k := 0) rfl e_v776 (by decide) rfl (fun ls hl => ?_)
            refine lv_goto (tgt := 45) hx hb dX3_joinMore_185 (by decide) ?_
            exact ih_l770 v776 v100 v101 f102 f103 _ _ (by omega) (by omega) (by omega) (by omega) (by omega) hG hS hj0_0 hj0_1 hj0_2 hj0_3 hj0_4 hj0_5 hj1_0 hj1_1 hj1_2 hj1_3 hj1_4 hj1_5 hj1_6 hj1_7 hj1_8 hj1_9 (mI_skip (by omega) hmI9 (by omega) (by omega) (by omega) (Or.inl (mU_used hmu (by omega) (by omega) (by rw [hm_v773, hm_v774]; omega)))) hag _ (lv_sub hl [0, 1, 2, 3, 4, 5] rfl)
          · have hc775 : v774.toInt = 0 := (fi_eq rfl (show (0 : Int32).toInt = 0 by decide)).mp c9
            refine lv_aload_n hx hb dX3_joinMore_66 rfl (lv_at hl 1 rfl) ?_
            refine tk_get (ci := 3) (C := RX3) (T := TX3) (N := 5) (sp := (8, 20, 3, 0)) hx hb htl inX3 hown hK hG ht_a0 (by decide) tk_no rfl 0 (by decide) (htl _ mw_175) (fun _ h9 => h9) rfl dX3_joinMore_67 (fun v9 hf777 hV9 => ?_)
            obtain ⟨rfl, ht_ld20⟩ := hV9
            have ht_ld20 : t (ld 20) = (3, 0, 0) := ht_ld20
            refine fx_top (v := .ref (ld 20)) rfl ?_
            refine tk_get (ci := 2) (C := RX2) (T := TX2) (N := 20) (sp := (11, 120, 37, 10)) hx hb htl inX2 hown hK hG ht_ld20 (by decide) tk_no rfl 10 (by decide) (htl _ mw_1463) (fun _ h9 => h9) rfl dX3_joinMore_70 (fun v9 hf778 hV9 => ?_)
            obtain ⟨rfl, ht_ld120⟩ := hV9
            have ht_ld120 : t (ld 120) = (37, 10, 0) := ht_ld120
            refine fx_top (v := .ref (ld 120)) rfl ?_
            refine lv_iload hx hb dX3_joinMore_73 (lv_at hl 0 rfl) ?_
            refine tk_iald hx hb hK hG ht_ld120 (by decide) (fun _ h => h) tk_no rfl (by omega) (by omega) dX3_joinMore_75 (fun v779 _ hz9 => ?_)
            have hr_v779 := tk_rng v779
            have ev_v779 : v779 = q3 v99.toNatClampNeg := hj1_9.at hz9 (by have h9 : v99.toNatClampNeg = v99.toInt.toNat := rfl; omega)
            have he_v779 : 1 ≤ v779.toInt ∧ v779.toInt ≤ 9 := by rw [ev_v779]; exact (hqr v99.toInt.toNat (by omega)).2
            refine lv_iload hx hb dX3_joinMore_76 (lv_at hl 5 rfl) ?_
            refine lv_icmp_gt (tgt := 182) hx hb dX3_joinMore_78 (by decide) (fun c9 => ?_) (fun c9 => ?_)
            · have hc780 : p4.toInt < v779.toInt := (fi_lt rfl rfl).mp c9
              obtain ⟨v781, h_v781, e_v781⟩ := tk_inc v99 1 (by decide) (by omega) (by omega)
              refine lv_iinc (v := v781) (lv' := [(5, .int v781), (0, .ref a0), (1, .int 3), (2, .int p2), (3, .int p3), (4, .int p4)]) hx hb dX3_joinMore_182 hl (k := 0) rfl e_v781 (by decide) rfl (fun ls hl => ?_)
              refine lv_goto (tgt := 45) hx hb dX3_joinMore_185 (by decide) ?_
              exact ih_l770 v781 v100 v101 f102 f103 _ _ (by omega) (by omega) (by omega) (by omega) (by omega) hG hS hj0_0 hj0_1 hj0_2 hj0_3 hj0_4 hj0_5 hj1_0 hj1_1 hj1_2 hj1_3 hj1_4 hj1_5 hj1_6 hj1_7 hj1_8 hj1_9 (mI_skip (by omega) hmI9 (by omega) (by omega) (by omega) (Or.inr (by have h7 := hmu.2.2.2.1; have e7 : mq n2.toInt q3 v99.toInt.toNat = v779 := (mq_at (by omega)).trans ev_v779.symm; rw [e7]; omega))) hag _ (lv_sub hl [0, 1, 2, 3, 4, 5] rfl)
            · have hc780 : ¬ (p4.toInt < v779.toInt) := fun h9 => c9 ((fi_lt rfl rfl).mpr h9)
              refine lv_iload_n hx hb dX3_joinMore_81 rfl (lv_at hl 2 rfl) ?_
              refine lv_if_le (tgt := 118) hx hb dX3_joinMore_82 (by decide) (fun c9 => absurd c9 (by decide)) (fun _ => ?_)
              refine lv_aload_n hx hb dX3_joinMore_85 rfl (lv_at hl 1 rfl) ?_
              refine tk_get (ci := 3) (C := RX3) (T := TX3) (N := 5) (sp := (8, 20, 3, 0)) hx hb htl inX3 hown hK hG ht_a0 (by decide) tk_no rfl 0 (by decide) (htl _ mw_175) (fun _ h9 => h9) rfl dX3_joinMore_86 (fun v9 hf782 hV9 => ?_)
              obtain ⟨rfl, ht_ld20⟩ := hV9
              have ht_ld20 : t (ld 20) = (3, 0, 0) := ht_ld20
              refine fx_top (v := .ref (ld 20)) rfl ?_
              refine tk_get (ci := 2) (C := RX2) (T := TX2) (N := 20) (sp := (11, 110, 36, 10)) hx hb htl inX2 hown hK hG ht_ld20 (by decide) tk_no rfl 9 (by decide) (htl _ mw_1464) (fun _ h9 => h9) rfl dX3_joinMore_89 (fun v9 hf783 hV9 => ?_)
              obtain ⟨rfl, ht_ld110⟩ := hV9
              have ht_ld110 : t (ld 110) = (36, 10, 0) := ht_ld110
              refine fx_top (v := .ref (ld 110)) rfl ?_
              refine lv_aload_n hx hb dX3_joinMore_92 rfl (lv_at hl 1 rfl) ?_
              refine tk_getk (ci := 3) (C := RX3) (T := TX3) (N := 5) (sp := (6, 22, 4, 0)) hx hb htl inX3 hown hK hG ht_a0 (by decide) tk_no rfl 1 (by decide) (htl _ mw_173) (fun _ h9 => h9) rfl hj0_0 dX3_joinMore_93 ?_
              refine lv_iload_n hx hb dX3_joinMore_96 rfl (lv_at hl 2 rfl) ?_
              refine lv_iconst (v := 1) hx hb dX3_joinMore_97 (by decide) ?_
              refine lv_isub hx hb dX3_joinMore_98 ?_
              refine fx_ti (v := 2) (by decide) ?_
              refine tk_iald hx hb hK hG ht_bj (by decide) (fun _ h => h) tk_no (I := 2) (by decide) (by decide) (by decide) dX3_joinMore_99 (fun v784 hE9 hz9 => ?_)
              have he_v784 : 0 ≤ v784.toInt ∧ v784.toInt ≤ 9 := hE9
              have ev_v784 : v784 = f102 (2 : Int32).toNatClampNeg := hj0_4.at hz9 (by decide)
              refine tk_iald hx hb hK hG ht_ld110 (by decide) (fun _ h => h) tk_no rfl (by omega) (by omega) dX3_joinMore_100 (fun v785 _ hz9 => ?_)
              have hr_v785 := tk_rng v785
              have ev_v785 : v785 = q2 v784.toNatClampNeg := hj1_8.at hz9 (by have h9 : v784.toNatClampNeg = v784.toInt.toNat := rfl; omega)
              refine lv_aload_n hx hb dX3_joinMore_101 rfl (lv_at hl 1 rfl) ?_
              refine tk_get (ci := 3) (C := RX3) (T := TX3) (N := 5) (sp := (8, 20, 3, 0)) hx hb htl inX3 hown hK hG ht_a0 (by decide) tk_no rfl 0 (by decide) (htl _ mw_175) (fun _ h9 => h9) rfl dX3_joinMore_102 (fun v9 hf786 hV9 => ?_)
              obtain ⟨rfl, ht_ld20⟩ := hV9
              have ht_ld20 : t (ld 20) = (3, 0, 0) := ht_ld20
              refine fx_top (v := .ref (ld 20)) rfl ?_
              refine tk_get (ci := 2) (C := RX2) (T := TX2) (N := 20) (sp := (11, 110, 36, 10)) hx hb htl inX2 hown hK hG ht_ld20 (by decide) tk_no rfl 9 (by decide) (htl _ mw_1464) (fun _ h9 => h9) rfl dX3_joinMore_105 (fun v9 hf787 hV9 => ?_)
              obtain ⟨rfl, ht_ld110⟩ := hV9
              have ht_ld110 : t (ld 110) = (36, 10, 0) := ht_ld110
              refine fx_top (v := .ref (ld 110)) rfl ?_
              refine lv_iload hx hb dX3_joinMore_108 (lv_at hl 0 rfl) ?_
              refine tk_iald hx hb hK hG ht_ld110 (by decide) (fun _ h => h) tk_no rfl (by omega) (by omega) dX3_joinMore_110 (fun v788 _ hz9 => ?_)
              have hr_v788 := tk_rng v788
              have ev_v788 : v788 = q2 v99.toNatClampNeg := hj1_8.at hz9 (by have h9 : v99.toNatClampNeg = v99.toInt.toNat := rfl; omega)
              refine lv_icmp_ne (tgt := 118) hx hb dX3_joinMore_111 (by decide) (fun c9 => ?_) (fun c9 => ?_)
              · have hc789 : ¬ (v785.toInt = v788.toInt) := fun h9 => c9 ((fi_eq rfl rfl).mpr h9)
                refine lv_iconst (v := 0) hx hb dX3_joinMore_118 (by decide) ?_
                refine lv_istore (lv' := [(6, .int 0), (5, .int v99), (0, .ref a0), (1, .int 3), (2, .int p2), (3, .int p3), (4, .int p4)]) hx hb dX3_joinMore_119 hl (by decide) rfl (fun ls hl => ?_)
                refine lv_aload_n hx hb dX3_joinMore_121 rfl (lv_at hl 2 rfl) ?_
                refine tk_getk (ci := 3) (C := RX3) (T := TX3) (N := 5) (sp := (6, 22, 4, 0)) hx hb htl inX3 hown hK hG ht_a0 (by decide) tk_no rfl 1 (by decide) (htl _ mw_173) (fun _ h9 => h9) rfl hj0_0 dX3_joinMore_122 ?_
                refine lv_iload_n hx hb dX3_joinMore_125 rfl (lv_at hl 3 rfl) ?_
                refine lv_iload hx hb dX3_joinMore_126 (lv_at hl 1 rfl) ?_
                refine tk_iastC hx hb hK hG hS ht_bj (by decide) (fun _ => Iff.rfl) tk_no (I := 3) (by decide) (by decide) (by decide) (show 0 ≤ (v99 : Int32).toInt ∧ (v99 : Int32).toInt ≤ 9 from ⟨by omega, by omega⟩) (tk_w.of ht_bj (by decide) (List.mem_of_getElem? (i := 0) rfl) (Nat.le_refl _) (Nat.le_refl _)) dX3_joinMore_128 hj0_4 (fun H locs hG hS hq9 hj791 => ?_)
                have hj791 : tk_c H bj 4 (upd f102 (3 : Int32).toNatClampNeg v99) := hj791
                have hj0_0 := hj0_0.kept (hq9 _ (tk_ne ht_a0 ht_bj (Or.inl (by decide))))
                have hj0_1 := hj0_1.kept (hq9 _ (tk_ne ht_a0 ht_bj (Or.inl (by decide))))
                have hj0_2 := hj0_2.kept (hq9 _ (tk_ne ht_a0 ht_bj (Or.inl (by decide))))
                have hj0_3 := hj0_3.kept (hq9 _ (tk_ne ht_a0 ht_bj (Or.inl (by decide))))
                have hj0_5 := hj0_5.kept (hq9 _ (tk_ne ht_bb ht_bj (Or.inl (by decide))))
                have hj1_0 := hj1_0.kept (hq9 _ (tk_ne ht_ld20 ht_bj (Or.inl (by decide))))
                have hj1_1 := hj1_1.kept (hq9 _ (tk_ne ht_ld20 ht_bj (Or.inl (by decide))))
                have hj1_2 := hj1_2.kept (hq9 _ (tk_ne ht_ld20 ht_bj (Or.inl (by decide))))
                have hj1_3 := hj1_3.kept (hq9 _ (tk_ne ht_ld20 ht_bj (Or.inl (by decide))))
                have hj1_4 := hj1_4.kept (hq9 _ (tk_ne ht_ld70 ht_bj (Or.inl (by decide))))
                have hj1_5 := hj1_5.kept (hq9 _ (tk_ne ht_ld80 ht_bj (Or.inl (by decide))))
                have hj1_6 := hj1_6.kept (hq9 _ (tk_ne ht_ld90 ht_bj (Or.inl (by decide))))
                have hj1_7 := hj1_7.kept (hq9 _ (tk_ne ht_ld100 ht_bj (Or.inl (by decide))))
                have hj1_8 := hj1_8.kept (hq9 _ (tk_ne ht_ld110 ht_bj (Or.inl (by decide))))
                have hj1_9 := hj1_9.kept (hq9 _ (tk_ne ht_ld120 ht_bj (Or.inl (by decide))))
                refine lv_iload_n hx hb dX3_joinMore_129 rfl (lv_at hl 5 rfl) ?_
                refine lv_aload_n hx hb dX3_joinMore_130 rfl (lv_at hl 2 rfl) ?_
                refine tk_get (ci := 3) (C := RX3) (T := TX3) (N := 5) (sp := (8, 20, 3, 0)) hx hb htl inX3 hown hK hG ht_a0 (by decide) tk_no rfl 0 (by decide) (htl _ mw_175) (fun _ h9 => h9) rfl dX3_joinMore_131 (fun v9 hf792 hV9 => ?_)
                obtain ⟨rfl, ht_ld20⟩ := hV9
                have ht_ld20 : t (ld 20) = (3, 0, 0) := ht_ld20
                refine fx_top (v := .ref (ld 20)) rfl ?_
                refine tk_get (ci := 2) (C := RX2) (T := TX2) (N := 20) (sp := (11, 100, 35, 10)) hx hb htl inX2 hown hK hG ht_ld20 (by decide) tk_no rfl 8 (by decide) (htl _ mw_1465) (fun _ h9 => h9) rfl dX3_joinMore_134 (fun v9 hf793 hV9 => ?_)
                obtain ⟨rfl, ht_ld100⟩ := hV9
                have ht_ld100 : t (ld 100) = (35, 10, 0) := ht_ld100
                refine fx_top (v := .ref (ld 100)) rfl ?_
                refine lv_iload hx hb dX3_joinMore_137 (lv_at hl 1 rfl) ?_
                refine tk_iald hx hb hK hG ht_ld100 (by decide) (fun _ h => h) tk_no rfl (by omega) (by omega) dX3_joinMore_139 (fun v794 _ hz9 => ?_)
                have hr_v794 := tk_rng v794
                have ev_v794 : v794 = q1 v99.toNatClampNeg := hj1_7.at hz9 (by have h9 : v99.toNatClampNeg = v99.toInt.toNat := rfl; omega)
                have he_v794 : 1 ≤ v794.toInt ∧ v794.toInt ≤ 99 := by rw [ev_v794]; exact (hqr v99.toInt.toNat (by omega)).1
                refine lv_iadd hx hb dX3_joinMore_140 ?_
                refine tk_add rfl rfl (by omega) (by omega) (fun v795 h_v795 => ?_)
                refine lv_iload hx hb dX3_joinMore_141 (lv_at hl 0 rfl) ?_
                refine lv_if_eq (tgt := 150) hx hb dX3_joinMore_143 (by decide) (fun _ => ?_) (fun c9 => absurd (by decide) c9)
                refine lv_iconst (v := 0) hx hb dX3_joinMore_150 (by decide) ?_
                refine lv_iadd hx hb dX3_joinMore_151 ?_
                refine tk_add rfl (show (0 : Int32).toInt = 0 by decide) (by omega) (by omega) (fun v796 h_v796 => ?_)
                refine lv_istore (lv' := [(7, .int v796), (6, .int 0), (5, .int v99), (0, .ref a0), (1, .int 3), (2, .int p2), (3, .int p3), (4, .int p4)]) hx hb dX3_joinMore_152 hl (by decide) rfl (fun ls hl => ?_)
                refine lv_aload_n hx hb dX3_joinMore_154 rfl (lv_at hl 3 rfl) ?_
                refine lv_iload_n hx hb dX3_joinMore_155 rfl (lv_at hl 4 rfl) ?_
                refine lv_iconst (v := 1) hx hb dX3_joinMore_156 (by decide) ?_
                refine lv_iadd hx hb dX3_joinMore_157 ?_
                refine fx_ti (v := 4) (by decide) ?_
                refine lv_iload_n hx hb dX3_joinMore_158 rfl (lv_at hl 5 rfl) ?_
                refine lv_iconst (v := 1) hx hb dX3_joinMore_159 (by decide) ?_
                refine lv_iload hx hb dX3_joinMore_160 (lv_at hl 2 rfl) ?_
                obtain ⟨v797, hm_v797⟩ : ∃ z : Int32, (1 : Int32) <<< (v99 &&& 31) = z := ⟨_, rfl⟩
                refine lv_ishl hx hb dX3_joinMore_162 ?_
                refine fx_ti hm_v797 ?_
                have hq_v797 := tk_rng v797
                obtain ⟨v798, hm_v798⟩ : ∃ z : Int32, p2 ||| v797 = z := ⟨_, rfl⟩
                refine lv_ior hx hb dX3_joinMore_163 ?_
                refine fx_ti hm_v798 ?_
                have hq_v798 := tk_rng v798
                refine lv_iload hx hb dX3_joinMore_164 (lv_at hl 0 rfl) ?_
                refine lv_iload hx hb dX3_joinMore_166 (lv_at hl 7 rfl) ?_
                refine lv_aload_n hx hb dX3_joinMore_168 rfl (lv_at hl 3 rfl) ?_
                refine tk_get (ci := 3) (C := RX3) (T := TX3) (N := 5) (sp := (8, 20, 3, 0)) hx hb htl inX3 hown hK hG ht_a0 (by decide) tk_no rfl 0 (by decide) (htl _ mw_175) (fun _ h9 => h9) rfl dX3_joinMore_169 (fun v9 hf799 hV9 => ?_)
                obtain ⟨rfl, ht_ld20⟩ := hV9
                have ht_ld20 : t (ld 20) = (3, 0, 0) := ht_ld20
                refine fx_top (v := .ref (ld 20)) rfl ?_
                refine tk_get (ci := 2) (C := RX2) (T := TX2) (N := 20) (sp := (11, 120, 37, 10)) hx hb htl inX2 hown hK hG ht_ld20 (by decide) tk_no rfl 10 (by decide) (htl _ mw_1463) (fun _ h9 => h9) rfl dX3_joinMore_172 (fun v9 hf800 hV9 => ?_)
                obtain ⟨rfl, ht_ld120⟩ := hV9
                have ht_ld120 : t (ld 120) = (37, 10, 0) := ht_ld120
                refine fx_top (v := .ref (ld 120)) rfl ?_
                refine lv_iload hx hb dX3_joinMore_175 (lv_at hl 2 rfl) ?_
                refine tk_iald hx hb hK hG ht_ld120 (by decide) (fun _ h => h) tk_no rfl (by omega) (by omega) dX3_joinMore_177 (fun v801 _ hz9 => ?_)
                have hr_v801 := tk_rng v801
                have ev_v801 : v801 = q3 v99.toNatClampNeg := hj1_9.at hz9 (by have h9 : v99.toNatClampNeg = v99.toInt.toNat := rfl; omega)
                have he_v801 : 1 ≤ v801.toInt ∧ v801.toInt ≤ 9 := by rw [ev_v801]; exact (hqr v99.toInt.toNat (by omega)).2
                have hee_v801 : v801.toInt = v779.toInt := congrArg Int32.toInt (ev_v801.trans ev_v779.symm)
                have hle_v801 : v801.toInt ≤ p4.toInt := by omega
                refine lv_isub hx hb dX3_joinMore_178 ?_
                refine tk_sub rfl rfl (by omega) (by omega) (fun v802 h_v802 => ?_)
                have hk_4 : (4 : Int32).toInt = 4 := by decide
                have hzr_v784 := mU_at hmu hag (j := 2) (by decide)
                have hzr_v784 : 0 ≤ v784.toInt ∧ v784.toInt < n2.toInt := by rw [ev_v784]; exact hzr_v784
                refine tk_Vv (As := [.int 4, .int v798, .int v796, .int v802]) (rest := []) (ci := 3) ⟨hx, hb, hml, hown, hts⟩ hK hG hZ hS (k_X3_joinMore_4_x l D cy ld t a0 v798 v796 v802 LL bj bb v100 v101 (upd f102 (3 : Int32).toNatClampNeg v99) f103 n0 n1 n2 n3 fh fs fk q1 q2 q3 ht_a0 ht_bj ht_bb ht_ld20 ht_ld70 ht_ld80 ht_ld90 ht_ld100 ht_ld110 ht_ld120 (by omega) (by omega) (by omega) (by omega) (by omega) (by omega) (by omega) (by omega) (by omega) (by omega) (by omega) (by omega) (by omega) (by omega) hqr (mU_next hmu hag (by omega) (by omega) (by omega) (by rw [hm_v773, hm_v774]; omega) (by rw [hm_v797, hm_v798]) ((mq_at (show ((v99.toInt.toNat : Nat) : Int) < n2.toInt by omega)).trans ev_v794.symm) ((mq_at (show ((v99.toInt.toNat : Nat) : Int) < n2.toInt by omega)).trans ev_v801.symm) (by decide) (mBon_n (by decide) (by decide) rfl ev_v784 (by have e7 : mq n2.toInt q2 v99.toInt.toNat = v788 := (mq_at (by omega)).trans ev_v788.symm; have e8 : mq n2.toInt q2 v784.toInt.toNat = v785 := (mq_at (by omega)).trans ev_v785.symm; rw [e7, e8]; intro h9; have h8 := congrArg Int32.toInt h9; omega)) (by omega) (by omega))) ⟨⟨hj0_0, hj0_1, hj0_2, hj0_3, hj791, hj0_5⟩, ⟨hj1_0, hj1_1, hj1_2, hj1_3, hj1_4, hj1_5, hj1_6, hj1_7, hj1_8, hj1_9⟩⟩ ⟨callB_of 4 hts (wl_in mw_1460) rfl rfl rfl (htl _ mw_48) (htl _ mw_1457) hd_yX3_joinMore ⟨(Nat.le_of_ble_eq_true rfl), (Nat.le_of_ble_eq_true rfl)⟩, htl _ mw_1458, htl _ mw_1459⟩ ht_a0 (by decide) tk_no rfl (tk_w.pick [1, 2] rfl) rfl hl.1 rfl (Nat.le_of_ble_eq_true rfl) dX3_joinMore_179 ⟨(Nat.le_of_ble_eq_true rfl), (Nat.le_of_ble_eq_true rfl)⟩ (fun H locs hpo hG hS hq9 => ?_)
                have hj1_0 := hj1_0.call hq9 (tk_w.no ht_ld20 (by decide))
                have hj1_1 := hj1_1.call hq9 (tk_w.no ht_ld20 (by decide))
                have hj1_2 := hj1_2.call hq9 (tk_w.no ht_ld20 (by decide))
                have hj1_3 := hj1_3.call hq9 (tk_w.no ht_ld20 (by decide))
                have hj1_4 := hj1_4.call hq9 (tk_w.no ht_ld70 (by decide))
                have hj1_5 := hj1_5.call hq9 (tk_w.no ht_ld80 (by decide))
                have hj1_6 := hj1_6.call hq9 (tk_w.no ht_ld90 (by decide))
                have hj1_7 := hj1_7.call hq9 (tk_w.no ht_ld100 (by decide))
                have hj1_8 := hj1_8.call hq9 (tk_w.no ht_ld110 (by decide))
                have hj1_9 := hj1_9.call hq9 (tk_w.no ht_ld120 (by decide))
                have hj791 := hj791.call hq9 (tk_w.no ht_bj (by decide))
                obtain ⟨hraw804, ⟨hj805, hj806, hj807, hj808, hj809, hj810, hj811, hj812, hj813, hj814⟩⟩ := hpo
                obtain ⟨v821, v822, f823, f824, ⟨hM_815, hM_816, hM_817, hM_818, hM_819, hM_820⟩, ⟨hlo_v821, hhi_v821⟩, hg825, hP826⟩ := hraw804
                have hq_v822 := tk_rng v822
                obtain ⟨v827, h_v827, e_v827⟩ := tk_inc v99 1 (by decide) (by omega) (by omega)
                refine lv_iinc (v := v827) (lv' := [(5, .int v827), (7, .int v796), (6, .int 0), (0, .ref a0), (1, .int 3), (2, .int p2), (3, .int p3), (4, .int p4)]) hx hb dX3_joinMore_182 hl (k := 2) rfl e_v827 (by decide) rfl (fun ls hl => ?_)
                refine lv_goto (tgt := 45) hx hb dX3_joinMore_185 (by decide) ?_
                exact ih_l770 v827 v821 v822 f823 f824 _ _ (by omega) (by omega) (by omega) (by omega) (by omega) hG hS hM_815 hM_816 hM_817 hM_818 hM_819 hM_820 hj805 hj806 hj807 hj808 hj809 hj810 hj811 hj812 hj813 hj814 (mI_last (by omega) hmI9 (by omega) (by omega) (by omega) hmu.1 (mU_free hmu (by omega) (by omega) (by rw [hm_v773, hm_v774]; omega)) (by have h7 := hmu.2.2.2.1; have e7 : mq n2.toInt q3 v99.toInt.toNat = v779 := (mq_at (by omega)).trans ev_v779.symm; rw [e7]; omega) rfl hag (by decide) hP826) ((hg825.mono (by decide)).trans (hag.pd (by decide))) _ (lv_sub hl [0, 3, 4, 5, 6, 7] rfl)
              · have hc789 : v785.toInt = v788.toInt := (fi_eq rfl rfl).mp c9
                refine lv_iconst (v := 1) hx hb dX3_joinMore_114 (by decide) ?_
                refine lv_goto (tgt := 119) hx hb dX3_joinMore_115 (by decide) ?_
                refine lv_istore (lv' := [(6, .int 1), (5, .int v99), (0, .ref a0), (1, .int 3), (2, .int p2), (3, .int p3), (4, .int p4)]) hx hb dX3_joinMore_119 hl (by decide) rfl (fun ls hl => ?_)
                refine lv_aload_n hx hb dX3_joinMore_121 rfl (lv_at hl 2 rfl) ?_
                refine tk_getk (ci := 3) (C := RX3) (T := TX3) (N := 5) (sp := (6, 22, 4, 0)) hx hb htl inX3 hown hK hG ht_a0 (by decide) tk_no rfl 1 (by decide) (htl _ mw_173) (fun _ h9 => h9) rfl hj0_0 dX3_joinMore_122 ?_
                refine lv_iload_n hx hb dX3_joinMore_125 rfl (lv_at hl 3 rfl) ?_
                refine lv_iload hx hb dX3_joinMore_126 (lv_at hl 1 rfl) ?_
                refine tk_iastC hx hb hK hG hS ht_bj (by decide) (fun _ => Iff.rfl) tk_no (I := 3) (by decide) (by decide) (by decide) (show 0 ≤ (v99 : Int32).toInt ∧ (v99 : Int32).toInt ≤ 9 from ⟨by omega, by omega⟩) (tk_w.of ht_bj (by decide) (List.mem_of_getElem? (i := 0) rfl) (Nat.le_refl _) (Nat.le_refl _)) dX3_joinMore_128 hj0_4 (fun H locs hG hS hq9 hj829 => ?_)
                have hj829 : tk_c H bj 4 (upd f102 (3 : Int32).toNatClampNeg v99) := hj829
                have hj0_0 := hj0_0.kept (hq9 _ (tk_ne ht_a0 ht_bj (Or.inl (by decide))))
                have hj0_1 := hj0_1.kept (hq9 _ (tk_ne ht_a0 ht_bj (Or.inl (by decide))))
                have hj0_2 := hj0_2.kept (hq9 _ (tk_ne ht_a0 ht_bj (Or.inl (by decide))))
                have hj0_3 := hj0_3.kept (hq9 _ (tk_ne ht_a0 ht_bj (Or.inl (by decide))))
                have hj0_5 := hj0_5.kept (hq9 _ (tk_ne ht_bb ht_bj (Or.inl (by decide))))
                have hj1_0 := hj1_0.kept (hq9 _ (tk_ne ht_ld20 ht_bj (Or.inl (by decide))))
                have hj1_1 := hj1_1.kept (hq9 _ (tk_ne ht_ld20 ht_bj (Or.inl (by decide))))
                have hj1_2 := hj1_2.kept (hq9 _ (tk_ne ht_ld20 ht_bj (Or.inl (by decide))))
                have hj1_3 := hj1_3.kept (hq9 _ (tk_ne ht_ld20 ht_bj (Or.inl (by decide))))
                have hj1_4 := hj1_4.kept (hq9 _ (tk_ne ht_ld70 ht_bj (Or.inl (by decide))))
                have hj1_5 := hj1_5.kept (hq9 _ (tk_ne ht_ld80 ht_bj (Or.inl (by decide))))
                have hj1_6 := hj1_6.kept (hq9 _ (tk_ne ht_ld90 ht_bj (Or.inl (by decide))))
                have hj1_7 := hj1_7.kept (hq9 _ (tk_ne ht_ld100 ht_bj (Or.inl (by decide))))
                have hj1_8 := hj1_8.kept (hq9 _ (tk_ne ht_ld110 ht_bj (Or.inl (by decide))))
                have hj1_9 := hj1_9.kept (hq9 _ (tk_ne ht_ld120 ht_bj (Or.inl (by decide))))
                refine lv_iload_n hx hb dX3_joinMore_129 rfl (lv_at hl 5 rfl) ?_
                refine lv_aload_n hx hb dX3_joinMore_130 rfl (lv_at hl 2 rfl) ?_
                refine tk_get (ci := 3) (C := RX3) (T := TX3) (N := 5) (sp := (8, 20, 3, 0)) hx hb htl inX3 hown hK hG ht_a0 (by decide) tk_no rfl 0 (by decide) (htl _ mw_175) (fun _ h9 => h9) rfl dX3_joinMore_131 (fun v9 hf830 hV9 => ?_)
                obtain ⟨rfl, ht_ld20⟩ := hV9
                have ht_ld20 : t (ld 20) = (3, 0, 0) := ht_ld20
                refine fx_top (v := .ref (ld 20)) rfl ?_
                refine tk_get (ci := 2) (C := RX2) (T := TX2) (N := 20) (sp := (11, 100, 35, 10)) hx hb htl inX2 hown hK hG ht_ld20 (by decide) tk_no rfl 8 (by decide) (htl _ mw_1465) (fun _ h9 => h9) rfl dX3_joinMore_134 (fun v9 hf831 hV9 => ?_)
                obtain ⟨rfl, ht_ld100⟩ := hV9
                have ht_ld100 : t (ld 100) = (35, 10, 0) := ht_ld100
                refine fx_top (v := .ref (ld 100)) rfl ?_
                refine lv_iload hx hb dX3_joinMore_137 (lv_at hl 1 rfl) ?_
                refine tk_iald hx hb hK hG ht_ld100 (by decide) (fun _ h => h) tk_no rfl (by omega) (by omega) dX3_joinMore_139 (fun v832 _ hz9 => ?_)
                have hr_v832 := tk_rng v832
                have ev_v832 : v832 = q1 v99.toNatClampNeg := hj1_7.at hz9 (by have h9 : v99.toNatClampNeg = v99.toInt.toNat := rfl; omega)
                have he_v832 : 1 ≤ v832.toInt ∧ v832.toInt ≤ 99 := by rw [ev_v832]; exact (hqr v99.toInt.toNat (by omega)).1
                refine lv_iadd hx hb dX3_joinMore_140 ?_
                refine tk_add rfl rfl (by omega) (by omega) (fun v833 h_v833 => ?_)
                refine lv_iload hx hb dX3_joinMore_141 (lv_at hl 0 rfl) ?_
                refine lv_if_eq (tgt := 150) hx hb dX3_joinMore_143 (by decide) (fun c9 => absurd c9 (by decide)) (fun _ => ?_)
                refine lv_iconst (v := 3) hx hb dX3_joinMore_146 (by decide) ?_
                refine lv_goto (tgt := 151) hx hb dX3_joinMore_147 (by decide) ?_
                refine lv_iadd hx hb dX3_joinMore_151 ?_
                refine tk_add rfl (show (3 : Int32).toInt = 3 by decide) (by omega) (by omega) (fun v834 h_v834 => ?_)
                refine lv_istore (lv' := [(7, .int v834), (6, .int 1), (5, .int v99), (0, .ref a0), (1, .int 3), (2, .int p2), (3, .int p3), (4, .int p4)]) hx hb dX3_joinMore_152 hl (by decide) rfl (fun ls hl => ?_)
                refine lv_aload_n hx hb dX3_joinMore_154 rfl (lv_at hl 3 rfl) ?_
                refine lv_iload_n hx hb dX3_joinMore_155 rfl (lv_at hl 4 rfl) ?_
                refine lv_iconst (v := 1) hx hb dX3_joinMore_156 (by decide) ?_
                refine lv_iadd hx hb dX3_joinMore_157 ?_
                refine fx_ti (v := 4) (by decide) ?_
                refine lv_iload_n hx hb dX3_joinMore_158 rfl (lv_at hl 5 rfl) ?_
                refine lv_iconst (v := 1) hx hb dX3_joinMore_159 (by decide) ?_
                refine lv_iload hx hb dX3_joinMore_160 (lv_at hl 2 rfl) ?_
                obtain ⟨v835, hm_v835⟩ : ∃ z : Int32, (1 : Int32) <<< (v99 &&& 31) = z := ⟨_, rfl⟩
                refine lv_ishl hx hb dX3_joinMore_162 ?_
                refine fx_ti hm_v835 ?_
                have hq_v835 := tk_rng v835
                obtain ⟨v836, hm_v836⟩ : ∃ z : Int32, p2 ||| v835 = z := ⟨_, rfl⟩
                refine lv_ior hx hb dX3_joinMore_163 ?_
                refine fx_ti hm_v836 ?_
                have hq_v836 := tk_rng v836
                refine lv_iload hx hb dX3_joinMore_164 (lv_at hl 0 rfl) ?_
                refine lv_iload hx hb dX3_joinMore_166 (lv_at hl 7 rfl) ?_
                refine lv_aload_n hx hb dX3_joinMore_168 rfl (lv_at hl 3 rfl) ?_
                refine tk_get (ci := 3) (C := RX3) (T := TX3) (N := 5) (sp := (8, 20, 3, 0)) hx hb htl inX3 hown hK hG ht_a0 (by decide) tk_no rfl 0 (by decide) (htl _ mw_175) (fun _ h9 => h9) rfl dX3_joinMore_169 (fun v9 hf837 hV9 => ?_)
                obtain ⟨rfl, ht_ld20⟩ := hV9
                have ht_ld20 : t (ld 20) = (3, 0, 0) := ht_ld20
                refine fx_top (v := .ref (ld 20)) rfl ?_
                refine tk_get (ci := 2) (C := RX2) (T := TX2) (N := 20) (sp := (11, 120, 37, 10)) hx hb htl inX2 hown hK hG ht_ld20 (by decide) tk_no rfl 10 (by decide) (htl _ mw_1463) (fun _ h9 => h9) rfl dX3_joinMore_172 (fun v9 hf838 hV9 => ?_)
                obtain ⟨rfl, ht_ld120⟩ := hV9
                have ht_ld120 : t (ld 120) = (37, 10, 0) := ht_ld120
                refine fx_top (v := .ref (ld 120)) rfl ?_
                refine lv_iload hx hb dX3_joinMore_175 (lv_at hl 2 rfl) ?_
                refine tk_iald hx hb hK hG ht_ld120 (by decide) (fun _ h => h) tk_no rfl (by omega) (by omega) dX3_joinMore_177 (fun v839 _ hz9 => ?_)
                have hr_v839 := tk_rng v839
                have ev_v839 : v839 = q3 v99.toNatClampNeg := hj1_9.at hz9 (by have h9 : v99.toNatClampNeg = v99.toInt.toNat := rfl; omega)
                have he_v839 : 1 ≤ v839.toInt ∧ v839.toInt ≤ 9 := by rw [ev_v839]; exact (hqr v99.toInt.toNat (by omega)).2
                have hee_v839 : v839.toInt = v779.toInt := congrArg Int32.toInt (ev_v839.trans ev_v779.symm)
                have hle_v839 : v839.toInt ≤ p4.toInt := by omega
                refine lv_isub hx hb dX3_joinMore_178 ?_
                refine tk_sub rfl rfl (by omega) (by omega) (fun v840 h_v840 => ?_)
                have hk_4 : (4 : Int32).toInt = 4 := by decide
                have hzr_v784 := mU_at hmu hag (j := 2) (by decide)
                have hzr_v784 : 0 ≤ v784.toInt ∧ v784.toInt < n2.toInt := by rw [ev_v784]; exact hzr_v784
                refine tk_Vv (As := [.int 4, .int v836, .int v834, .int v840]) (rest := []) (ci := 3) ⟨hx, hb, hml, hown, hts⟩ hK hG hZ hS (k_X3_joinMore_4_x l D cy ld t a0 v836 v834 v840 LL bj bb v100 v101 (upd f102 (3 : Int32).toNatClampNeg v99) f103 n0 n1 n2 n3 fh fs fk q1 q2 q3 ht_a0 ht_bj ht_bb ht_ld20 ht_ld70 ht_ld80 ht_ld90 ht_ld100 ht_ld110 ht_ld120 (by omega) (by omega) (by omega) (by omega) (by omega) (by omega) (by omega) (by omega) (by omega) (by omega) (by omega) (by omega) (by omega) (by omega) hqr (mU_next hmu hag (by omega) (by omega) (by omega) (by rw [hm_v773, hm_v774]; omega) (by rw [hm_v835, hm_v836]) ((mq_at (show ((v99.toInt.toNat : Nat) : Int) < n2.toInt by omega)).trans ev_v832.symm) ((mq_at (show ((v99.toInt.toNat : Nat) : Int) < n2.toInt by omega)).trans ev_v839.symm) (by decide) (mBon_y (by decide) (by decide) rfl ev_v784 (by have e7 : mq n2.toInt q2 v99.toInt.toNat = v788 := (mq_at (by omega)).trans ev_v788.symm; have e8 : mq n2.toInt q2 v784.toInt.toNat = v785 := (mq_at (by omega)).trans ev_v785.symm; rw [e7, e8]; exact m_eq (by omega))) (by omega) (by omega))) ⟨⟨hj0_0, hj0_1, hj0_2, hj0_3, hj829, hj0_5⟩, ⟨hj1_0, hj1_1, hj1_2, hj1_3, hj1_4, hj1_5, hj1_6, hj1_7, hj1_8, hj1_9⟩⟩ ⟨callB_of 4 hts (wl_in mw_1460) rfl rfl rfl (htl _ mw_48) (htl _ mw_1457) hd_yX3_joinMore ⟨(Nat.le_of_ble_eq_true rfl), (Nat.le_of_ble_eq_true rfl)⟩, htl _ mw_1458, htl _ mw_1459⟩ ht_a0 (by decide) tk_no rfl (tk_w.pick [1, 2] rfl) rfl hl.1 rfl (Nat.le_of_ble_eq_true rfl) dX3_joinMore_179 ⟨(Nat.le_of_ble_eq_true rfl), (Nat.le_of_ble_eq_true rfl)⟩ (fun H locs hpo hG hS hq9 => ?_)
                have hj1_0 := hj1_0.call hq9 (tk_w.no ht_ld20 (by decide))
                have hj1_1 := hj1_1.call hq9 (tk_w.no ht_ld20 (by decide))
                have hj1_2 := hj1_2.call hq9 (tk_w.no ht_ld20 (by decide))
                have hj1_3 := hj1_3.call hq9 (tk_w.no ht_ld20 (by decide))
                have hj1_4 := hj1_4.call hq9 (tk_w.no ht_ld70 (by decide))
                have hj1_5 := hj1_5.call hq9 (tk_w.no ht_ld80 (by decide))
                have hj1_6 := hj1_6.call hq9 (tk_w.no ht_ld90 (by decide))
                have hj1_7 := hj1_7.call hq9 (tk_w.no ht_ld100 (by decide))
                have hj1_8 := hj1_8.call hq9 (tk_w.no ht_ld110 (by decide))
                have hj1_9 := hj1_9.call hq9 (tk_w.no ht_ld120 (by decide))
                have hj829 := hj829.call hq9 (tk_w.no ht_bj (by decide))
                obtain ⟨hraw842, ⟨hj843, hj844, hj845, hj846, hj847, hj848, hj849, hj850, hj851, hj852⟩⟩ := hpo
                obtain ⟨v859, v860, f861, f862, ⟨hM_853, hM_854, hM_855, hM_856, hM_857, hM_858⟩, ⟨hlo_v859, hhi_v859⟩, hg863, hP864⟩ := hraw842
                have hq_v860 := tk_rng v860
                obtain ⟨v865, h_v865, e_v865⟩ := tk_inc v99 1 (by decide) (by omega) (by omega)
                refine lv_iinc (v := v865) (lv' := [(5, .int v865), (7, .int v834), (6, .int 1), (0, .ref a0), (1, .int 3), (2, .int p2), (3, .int p3), (4, .int p4)]) hx hb dX3_joinMore_182 hl (k := 2) rfl e_v865 (by decide) rfl (fun ls hl => ?_)
                refine lv_goto (tgt := 45) hx hb dX3_joinMore_185 (by decide) ?_
                exact ih_l770 v865 v859 v860 f861 f862 _ _ (by omega) (by omega) (by omega) (by omega) (by omega) hG hS hM_853 hM_854 hM_855 hM_856 hM_857 hM_858 hj843 hj844 hj845 hj846 hj847 hj848 hj849 hj850 hj851 hj852 (mI_last (by omega) hmI9 (by omega) (by omega) (by omega) hmu.1 (mU_free hmu (by omega) (by omega) (by rw [hm_v773, hm_v774]; omega)) (by have h7 := hmu.2.2.2.1; have e7 : mq n2.toInt q3 v99.toInt.toNat = v779 := (mq_at (by omega)).trans ev_v779.symm; rw [e7]; omega) rfl hag (by decide) hP864) ((hg863.mono (by decide)).trans (hag.pd (by decide))) _ (lv_sub hl [0, 3, 4, 5, 6, 7] rfl)
    have hk_0 : (0 : Int32).toInt = 0 := by decide
    have hk_0 : (0 : Int32).toInt = 0 := by decide
    exact hl770 11 0 bl bs J B _ _ (by omega) (by omega) (by omega) (by omega) (by omega) hG hS hj0_0 hj0_1 hj0_2 hj0_3 hj0_4 hj0_5 hj1_0 hj1_1 hj1_2 hj1_3 hj1_4 hj1_5 hj1_6 hj1_7 hj1_8 hj1_9 (mI_nt (by decide) (Or.inr (by have h7 := hmu.2.2.1; show _ ≤ bs.toInt; omega))) (mAg.refl _ _) _ (lv_sub hl [0, 1, 2, 3, 4, 5] rfl)
  · have hc1 : ¬ (p3.toInt ≤ bs.toInt) := fun h9 => c9 ((fi_le rfl rfl).mpr h9)
    refine lv_aload_n hx hb dX3_joinMore_12 rfl (lv_at hl 0 rfl) ?_
    refine lv_iload_n hx hb dX3_joinMore_13 rfl (lv_at hl 3 rfl) ?_
    refine tk_put (ci := 3) (v := .int p3) (ty := .int) (C := RX3) (T := TX3) (N := 5) (sp := (0, (-2147483648), 2147483647, 0)) hx hb htl inX3 tyX3 tyX3_ok nmX3 hown hK hG hS ht_a0 (by decide) tk_no rfl 4 (by decide) (htl _ mw_1456) (fun _ h9 => h9) rfl (tyX3_ok 4 (by decide)) rfl rfl rfl (tk_V0 (tk_rng _).1 (tk_rng _).2) (fun _ h => h) (tk_w.of ht_a0 (by decide) (List.mem_of_getElem? (i := 1) rfl) (Nat.le_refl _) (Nat.le_refl _)) dX3_joinMore_14 (fun H locs hG hS hf866 hq9 hj9 => ?_)
    have hj0_0 := hj9 1 _ (by decide) (by decide) hj0_0
    have hj0_1 := hj9 2 _ (by decide) (by decide) hj0_1
    have hj0_2 := hj9 3 _ (by decide) (by decide) hj0_2
    have hj0_4 := hj0_4.kept (hq9 _ (tk_ne ht_bj ht_a0 (Or.inl (by decide))))
    have hj0_5 := hj0_5.kept (hq9 _ (tk_ne ht_bb ht_a0 (Or.inl (by decide))))
    have hj1_0 := hj1_0.kept (hq9 _ (tk_ne ht_ld20 ht_a0 (Or.inl (by decide))))
    have hj1_1 := hj1_1.kept (hq9 _ (tk_ne ht_ld20 ht_a0 (Or.inl (by decide))))
    have hj1_2 := hj1_2.kept (hq9 _ (tk_ne ht_ld20 ht_a0 (Or.inl (by decide))))
    have hj1_3 := hj1_3.kept (hq9 _ (tk_ne ht_ld20 ht_a0 (Or.inl (by decide))))
    have hj1_4 := hj1_4.kept (hq9 _ (tk_ne ht_ld70 ht_a0 (Or.inl (by decide))))
    have hj1_5 := hj1_5.kept (hq9 _ (tk_ne ht_ld80 ht_a0 (Or.inl (by decide))))
    have hj1_6 := hj1_6.kept (hq9 _ (tk_ne ht_ld90 ht_a0 (Or.inl (by decide))))
    have hj1_7 := hj1_7.kept (hq9 _ (tk_ne ht_ld100 ht_a0 (Or.inl (by decide))))
    have hj1_8 := hj1_8.kept (hq9 _ (tk_ne ht_ld110 ht_a0 (Or.inl (by decide))))
    have hj1_9 := hj1_9.kept (hq9 _ (tk_ne ht_ld120 ht_a0 (Or.inl (by decide))))
    refine lv_aload_n hx hb dX3_joinMore_17 rfl (lv_at hl 0 rfl) ?_
    refine lv_iload_n hx hb dX3_joinMore_18 rfl (lv_at hl 1 rfl) ?_
    refine tk_put (ci := 3) (v := .int 3) (ty := .int) (C := RX3) (T := TX3) (N := 5) (sp := (0, 0, 4, 0)) hx hb htl inX3 tyX3 tyX3_ok nmX3 hown hK hG hS ht_a0 (by decide) tk_no rfl 3 (by decide) (htl _ mw_1455) (fun _ h9 => h9) rfl (tyX3_ok 3 (by decide)) rfl rfl rfl (tk_V0 (by decide) (by decide)) (fun _ h => h) (tk_w.of ht_a0 (by decide) (List.mem_of_getElem? (i := 1) rfl) (Nat.le_refl _) (Nat.le_refl _)) dX3_joinMore_19 (fun H locs hG hS hf868 hq9 hj9 => ?_)
    have hj0_0 := hj9 1 _ (by decide) (by decide) hj0_0
    have hj0_1 := hj9 2 _ (by decide) (by decide) hj0_1
    have hj0_4 := hj0_4.kept (hq9 _ (tk_ne ht_bj ht_a0 (Or.inl (by decide))))
    have hj0_5 := hj0_5.kept (hq9 _ (tk_ne ht_bb ht_a0 (Or.inl (by decide))))
    have hj1_0 := hj1_0.kept (hq9 _ (tk_ne ht_ld20 ht_a0 (Or.inl (by decide))))
    have hj1_1 := hj1_1.kept (hq9 _ (tk_ne ht_ld20 ht_a0 (Or.inl (by decide))))
    have hj1_2 := hj1_2.kept (hq9 _ (tk_ne ht_ld20 ht_a0 (Or.inl (by decide))))
    have hj1_3 := hj1_3.kept (hq9 _ (tk_ne ht_ld20 ht_a0 (Or.inl (by decide))))
    have hj1_4 := hj1_4.kept (hq9 _ (tk_ne ht_ld70 ht_a0 (Or.inl (by decide))))
    have hj1_5 := hj1_5.kept (hq9 _ (tk_ne ht_ld80 ht_a0 (Or.inl (by decide))))
    have hj1_6 := hj1_6.kept (hq9 _ (tk_ne ht_ld90 ht_a0 (Or.inl (by decide))))
    have hj1_7 := hj1_7.kept (hq9 _ (tk_ne ht_ld100 ht_a0 (Or.inl (by decide))))
    have hj1_8 := hj1_8.kept (hq9 _ (tk_ne ht_ld110 ht_a0 (Or.inl (by decide))))
    have hj1_9 := hj1_9.kept (hq9 _ (tk_ne ht_ld120 ht_a0 (Or.inl (by decide))))
    have hf866 := hj9 4 _ (by decide) (by decide) hf866
    refine lv_aload_n hx hb dX3_joinMore_22 rfl (lv_at hl 0 rfl) ?_
    refine tk_getk (ci := 3) (C := RX3) (T := TX3) (N := 5) (sp := (6, 22, 4, 0)) hx hb htl inX3 hown hK hG ht_a0 (by decide) tk_no rfl 1 (by decide) (htl _ mw_173) (fun _ h9 => h9) rfl hj0_0 dX3_joinMore_23 ?_
    refine lv_iconst (v := 0) hx hb dX3_joinMore_26 (by decide) ?_
    refine lv_aload_n hx hb dX3_joinMore_27 rfl (lv_at hl 0 rfl) ?_
    refine tk_getk (ci := 3) (C := RX3) (T := TX3) (N := 5) (sp := (6, 20, 4, 0)) hx hb htl inX3 hown hK hG ht_a0 (by decide) tk_no rfl 2 (by decide) (htl _ mw_174) (fun _ h9 => h9) rfl hj0_1 dX3_joinMore_28 ?_
    refine lv_iconst (v := 0) hx hb dX3_joinMore_31 (by decide) ?_
    refine lv_iconst (v := 4) hx hb dX3_joinMore_32 (by decide) ?_
    refine tk_copyC (SP := 0) (DP := 0) (NC := 4) hx hb (by rw [hml]; exact hl.1.symm) hown (htl _ mw_1461) (htl _ mw_655) (htl _ mw_656) (htl _ mw_657) hK hG hS ht_bj ht_bb (by decide) (by decide) (fun _ h => h) (fun _ => Iff.rfl) tk_no tk_no (show (0 : Int32).toInt = 0 by decide) (show (0 : Int32).toInt = 0 by decide) (show (4 : Int32).toInt = 4 by decide) (by decide) (by decide) (by decide) (by decide) (by decide) (fun _ _ _ _ _ => trivial) (tk_w.of ht_bb (by decide) (List.mem_of_getElem? (i := 2) rfl) (Nat.le_refl _) (Nat.le_refl _)) (Nat.le_of_ble_eq_true rfl) (Nat.le_of_ble_eq_true rfl) dX3_joinMore_33 hj0_4 rfl rfl rfl (fun H locs hG hS hq9 hj871 => ?_)
    have hj0_0 := hj0_0.kept (hq9 _ (tk_ne ht_a0 ht_bb (Or.inl (by decide))))
    have hj0_1 := hj0_1.kept (hq9 _ (tk_ne ht_a0 ht_bb (Or.inl (by decide))))
    have hj0_4 := hj0_4.kept (hq9 _ (tk_ne ht_bj ht_bb (Or.inl (by decide))))
    have hj1_0 := hj1_0.kept (hq9 _ (tk_ne ht_ld20 ht_bb (Or.inl (by decide))))
    have hj1_1 := hj1_1.kept (hq9 _ (tk_ne ht_ld20 ht_bb (Or.inl (by decide))))
    have hj1_2 := hj1_2.kept (hq9 _ (tk_ne ht_ld20 ht_bb (Or.inl (by decide))))
    have hj1_3 := hj1_3.kept (hq9 _ (tk_ne ht_ld20 ht_bb (Or.inl (by decide))))
    have hj1_4 := hj1_4.kept (hq9 _ (tk_ne ht_ld70 ht_bb (Or.inl (by decide))))
    have hj1_5 := hj1_5.kept (hq9 _ (tk_ne ht_ld80 ht_bb (Or.inl (by decide))))
    have hj1_6 := hj1_6.kept (hq9 _ (tk_ne ht_ld90 ht_bb (Or.inl (by decide))))
    have hj1_7 := hj1_7.kept (hq9 _ (tk_ne ht_ld100 ht_bb (Or.inl (by decide))))
    have hj1_8 := hj1_8.kept (hq9 _ (tk_ne ht_ld110 ht_bb (Or.inl (by decide))))
    have hj1_9 := hj1_9.kept (hq9 _ (tk_ne ht_ld120 ht_bb (Or.inl (by decide))))
    have hf866 := hf866.kept (hq9 _ (tk_ne ht_a0 ht_bb (Or.inl (by decide))))
    have hf868 := hf868.kept (hq9 _ (tk_ne ht_a0 ht_bb (Or.inl (by decide))))
    refine lv_iload_n hx hb dX3_joinMore_36 rfl (lv_at hl 1 rfl) ?_
    refine lv_iconst (v := 4) hx hb dX3_joinMore_37 (by decide) ?_
    refine lv_icmp_lt (tgt := 42) hx hb dX3_joinMore_38 (by decide) (fun _ => ?_) (fun c9 => absurd (by decide) c9)
    refine lv_iconst (v := 0) hx hb dX3_joinMore_42 (by decide) ?_
    refine lv_istore (lv' := [(5, .int 0), (0, .ref a0), (1, .int 3), (2, .int p2), (3, .int p3), (4, .int p4)]) hx hb dX3_joinMore_43 hl (by decide) rfl (fun ls hl => ?_)
    have hl1640 : ∀ (N_l1640 : Nat) (v969 : Int32) (f970 : Nat → Int32) (v971 : Int32) (v972 : Int32) (f973 : Nat → Int32) (H : Heap) (locs : List Loc), v969.toInt ≤ 10 → 0 ≤ v969.toInt → 0 ≤ v972.toInt → v972.toInt ≤ 4 → (-1) * v969.toInt + 10 < (N_l1640 : Int) → tk_G D cy ld t [] H → va_S (tk_w t [(22, 0, 0), (4, 0, 0), (20, 0, 0)]) s.heap H locs → tk_f D H a0 3 1 (.ref bj) → tk_f D H a0 3 2 (.ref bb) → tk_c H bj 4 f970 → tk_f D H (ld 20) 2 0 (.int n0) → tk_f D H (ld 20) 2 4 (.int n1) → tk_f D H (ld 20) 2 7 (.int n2) → tk_f D H (ld 20) 2 11 (.int n3) → tk_c H (ld 70) 8 fh → tk_c H (ld 80) 10 fs → tk_c H (ld 90) 10 fk → tk_c H (ld 100) 10 q1 → tk_c H (ld 110) 10 q2 → tk_c H (ld 120) 10 q3 → tk_f D H a0 3 4 (.int v971) → tk_f D H a0 3 3 (.int v972) → tk_c H bb 4 f973 → mI n2.toInt LL (mq n2.toInt q1) (mq n2.toInt q2) (mq n2.toInt q3) 3 J (bs.toInt, bl.toInt, B) v969.toInt (v971.toInt, v972.toInt, f973) → mAg 3 f970 J → ∀ ls : Array Slot, lv_has ls 8 [(5, .int v969), (0, .ref a0), (1, .int 3), (2, .int p2), (3, .int p3), (4, .int p4)] → W p l e ({ frames := 5, cells := 0, slots := 0, locals := 280 }) s m args below meth c H locs 0 0 (MQ below (tv D cy ld t [] (fun H => (∃ (bl9 bs9 : Int32) (J9 B9 : Nat → Int32), jM D a0 bj bb bl9 bs9 J9 B9 H ∧ (0 ≤ bl9.toInt ∧ bl9.toInt ≤ 4) ∧ mAg 3 J9 J ∧ mP n2.toInt LL (mq n2.toInt q1) (mq n2.toInt q2) (mq n2.toInt q3) 3 J (bs.toInt, bl.toInt, B) (bs9.toInt, bl9.toInt, B9)) ∧ jC D ld (ld 20) 0 n0 n1 n2 n3 fh fs fk q1 q2 q3 H) (tk_w t [(22, 0, 0), (4, 0, 0), (20, 0, 0)])) args s 0 0 (tk_w t [(22, 0, 0), (4, 0, 0), (20, 0, 0)])) (F0 m 45 ls []) := by
      intro N_l1640
      induction N_l1640 with
      | zero => intro v969 f970 v971 v972 f973 H locs hq0_l1640 hq1_l1640 hq2_l1640 hq3_l1640 hm_l1640 hG hS hj0_0 hj0_1 hj0_4 hj1_0 hj1_1 hj1_2 hj1_3 hj1_4 hj1_5 hj1_6 hj1_7 hj1_8 hj1_9 hf866 hf868 hj871 hmI9 hag ls hl; exfalso; omega
      | succ N_l1640 ih_l1640 =>
        intro v969 f970 v971 v972 f973 H locs hq0_l1640 hq1_l1640 hq2_l1640 hq3_l1640 hm_l1640 hG hS hj0_0 hj0_1 hj0_4 hj1_0 hj1_1 hj1_2 hj1_3 hj1_4 hj1_5 hj1_6 hj1_7 hj1_8 hj1_9 hf866 hf868 hj871 hmI9 hag ls hl
        refine lv_iload hx hb dX3_joinMore_45 (lv_at hl 0 rfl) ?_
        refine lv_aload_n hx hb dX3_joinMore_47 rfl (lv_at hl 1 rfl) ?_
        refine tk_get (ci := 3) (C := RX3) (T := TX3) (N := 5) (sp := (8, 20, 3, 0)) hx hb htl inX3 hown hK hG ht_a0 (by decide) tk_no rfl 0 (by decide) (htl _ mw_175) (fun _ h9 => h9) rfl dX3_joinMore_48 (fun v9 hf1641 hV9 => ?_)
        obtain ⟨rfl, ht_ld20⟩ := hV9
        have ht_ld20 : t (ld 20) = (3, 0, 0) := ht_ld20
        refine fx_top (v := .ref (ld 20)) rfl ?_
        refine tk_getk (ci := 2) (C := RX2) (T := TX2) (N := 20) (sp := (0, 0, 10, 0)) hx hb htl inX2 hown hK hG ht_ld20 (by decide) tk_no rfl 7 (by decide) (htl _ mw_1462) (fun _ h9 => h9) rfl hj1_2 dX3_joinMore_51 ?_
        refine lv_icmp_ge (tgt := 188) hx hb dX3_joinMore_54 (by decide) (fun c9 => ?_) (fun c9 => ?_)
        · have hc1642 : n2.toInt ≤ v969.toInt := (fi_le rfl rfl).mp c9
          exact tk_vret hx hb hr hlocks (show (∃ (bl9 bs9 : Int32) (J9 B9 : Nat → Int32), jM D a0 bj bb bl9 bs9 J9 B9 H ∧ (0 ≤ bl9.toInt ∧ bl9.toInt ≤ 4) ∧ mAg 3 J9 J ∧ mP n2.toInt LL (mq n2.toInt q1) (mq n2.toInt q2) (mq n2.toInt q3) 3 J (bs.toInt, bl.toInt, B) (bs9.toInt, bl9.toInt, B9)) ∧ jC D ld (ld 20) 0 n0 n1 n2 n3 fh fs fk q1 q2 q3 H from ⟨⟨v972, v971, f970, f973, ⟨hj0_0, hj0_1, hf868, hf866, hj0_4, hj871⟩, ⟨by omega, by omega⟩, hag, (mI_end hmI9 (by omega) (by omega) (by omega))⟩, ⟨hj1_0, hj1_1, hj1_2, hj1_3, hj1_4, hj1_5, hj1_6, hj1_7, hj1_8, hj1_9⟩⟩) hG hS dX3_joinMore_188
        · have hc1642 : ¬ (n2.toInt ≤ v969.toInt) := fun h9 => c9 ((fi_le rfl rfl).mpr h9)
          refine lv_iload_n hx hb dX3_joinMore_57 rfl (lv_at hl 3 rfl) ?_
          refine lv_iload hx hb dX3_joinMore_58 (lv_at hl 0 rfl) ?_
          obtain ⟨v1643, hm_v1643⟩ : ∃ z : Int32, p2 >>> (v969 &&& 31) = z := ⟨_, rfl⟩
          refine lv_ishr hx hb dX3_joinMore_60 ?_
          refine fx_ti hm_v1643 ?_
          have hq_v1643 := tk_rng v1643
          refine lv_iconst (v := 1) hx hb dX3_joinMore_61 (by decide) ?_
          obtain ⟨v1644, hm_v1644⟩ : ∃ z : Int32, v1643 &&& (1 : Int32) = z := ⟨_, rfl⟩
          refine lv_iand hx hb dX3_joinMore_62 ?_
          refine fx_ti hm_v1644 ?_
          have h_v1644 : 0 ≤ v1644.toInt ∧ v1644.toInt ≤ 1 := hm_v1644 ▸ tk_and v1643 1 (by decide) (by decide)
          refine lv_if_ne (tgt := 182) hx hb dX3_joinMore_63 (by decide) (fun c9 => ?_) (fun c9 => ?_)
          · have hc1645 : ¬ (v1644.toInt = 0) := fun h9 => c9 ((fi_eq rfl (show (0 : Int32).toInt = 0 by decide)).mpr h9)
            obtain ⟨v1646, h_v1646, e_v1646⟩ := tk_inc v969 1 (by decide) (by omega) (by omega)
            refine lv_iinc (v := v1646) (lv' := [(5, .int v1646), (0, .ref a0), (1, .int 3), (2, .int p2), (3, .int p3), (4, .int p4)]) hx hb dX3_joinMore_182 hl (k := 0) rfl e_v1646 (by decide) rfl (fun ls hl => ?_)
            refine lv_goto (tgt := 45) hx hb dX3_joinMore_185 (by decide) ?_
            exact ih_l1640 v1646 f970 v971 v972 f973 _ _ (by omega) (by omega) (by omega) (by omega) (by omega) hG hS hj0_0 hj0_1 hj0_4 hj1_0 hj1_1 hj1_2 hj1_3 hj1_4 hj1_5 hj1_6 hj1_7 hj1_8 hj1_9 hf866 hf868 hj871 (mI_skip (by omega) hmI9 (by omega) (by omega) (by omega) (Or.inl (mU_used hmu (by omega) (by omega) (by rw [hm_v1643, hm_v1644]; omega)))) hag _ (lv_sub hl [0, 1, 2, 3, 4, 5] rfl)
          · have hc1645 : v1644.toInt = 0 := (fi_eq rfl (show (0 : Int32).toInt = 0 by decide)).mp c9
            refine lv_aload_n hx hb dX3_joinMore_66 rfl (lv_at hl 1 rfl) ?_
            refine tk_get (ci := 3) (C := RX3) (T := TX3) (N := 5) (sp := (8, 20, 3, 0)) hx hb htl inX3 hown hK hG ht_a0 (by decide) tk_no rfl 0 (by decide) (htl _ mw_175) (fun _ h9 => h9) rfl dX3_joinMore_67 (fun v9 hf1647 hV9 => ?_)
            obtain ⟨rfl, ht_ld20⟩ := hV9
            have ht_ld20 : t (ld 20) = (3, 0, 0) := ht_ld20
            refine fx_top (v := .ref (ld 20)) rfl ?_
            refine tk_get (ci := 2) (C := RX2) (T := TX2) (N := 20) (sp := (11, 120, 37, 10)) hx hb htl inX2 hown hK hG ht_ld20 (by decide) tk_no rfl 10 (by decide) (htl _ mw_1463) (fun _ h9 => h9) rfl dX3_joinMore_70 (fun v9 hf1648 hV9 => ?_)
            obtain ⟨rfl, ht_ld120⟩ := hV9
            have ht_ld120 : t (ld 120) = (37, 10, 0) := ht_ld120
            refine fx_top (v := .ref (ld 120)) rfl ?_
            refine lv_iload hx hb dX3_joinMore_73 (lv_at hl 0 rfl) ?_
            refine tk_iald hx hb hK hG ht_ld120 (by decide) (fun _ h => h) tk_no rfl (by omega) (by omega) dX3_joinMore_75 (fun v1649 _ hz9 => ?_)
            have hr_v1649 := tk_rng v1649
            have ev_v1649 : v1649 = q3 v969.toNatClampNeg := hj1_9.at hz9 (by have h9 : v969.toNatClampNeg = v969.toInt.toNat := rfl; omega)
            have he_v1649 : 1 ≤ v1649.toInt ∧ v1649.toInt ≤ 9 := by rw [ev_v1649]; exact (hqr v969.toInt.toNat (by omega)).2
            refine lv_iload hx hb dX3_joinMore_76 (lv_at hl 5 rfl) ?_
            refine lv_icmp_gt (tgt := 182) hx hb dX3_joinMore_78 (by decide) (fun c9 => ?_) (fun c9 => ?_)
            · have hc1650 : p4.toInt < v1649.toInt := (fi_lt rfl rfl).mp c9
              obtain ⟨v1651, h_v1651, e_v1651⟩ := tk_inc v969 1 (by decide) (by omega) (by omega)
              refine lv_iinc (v := v1651) (lv' := [(5, .int v1651), (0, .ref a0), (1, .int 3), (2, .int p2), (3, .int p3), (4, .int p4)]) hx hb dX3_joinMore_182 hl (k := 0) rfl e_v1651 (by decide) rfl (fun ls hl => ?_)
              refine lv_goto (tgt := 45) hx hb dX3_joinMore_185 (by decide) ?_
              exact ih_l1640 v1651 f970 v971 v972 f973 _ _ (by omega) (by omega) (by omega) (by omega) (by omega) hG hS hj0_0 hj0_1 hj0_4 hj1_0 hj1_1 hj1_2 hj1_3 hj1_4 hj1_5 hj1_6 hj1_7 hj1_8 hj1_9 hf866 hf868 hj871 (mI_skip (by omega) hmI9 (by omega) (by omega) (by omega) (Or.inr (by have h7 := hmu.2.2.2.1; have e7 : mq n2.toInt q3 v969.toInt.toNat = v1649 := (mq_at (by omega)).trans ev_v1649.symm; rw [e7]; omega))) hag _ (lv_sub hl [0, 1, 2, 3, 4, 5] rfl)
            · have hc1650 : ¬ (p4.toInt < v1649.toInt) := fun h9 => c9 ((fi_lt rfl rfl).mpr h9)
              refine lv_iload_n hx hb dX3_joinMore_81 rfl (lv_at hl 2 rfl) ?_
              refine lv_if_le (tgt := 118) hx hb dX3_joinMore_82 (by decide) (fun c9 => absurd c9 (by decide)) (fun _ => ?_)
              refine lv_aload_n hx hb dX3_joinMore_85 rfl (lv_at hl 1 rfl) ?_
              refine tk_get (ci := 3) (C := RX3) (T := TX3) (N := 5) (sp := (8, 20, 3, 0)) hx hb htl inX3 hown hK hG ht_a0 (by decide) tk_no rfl 0 (by decide) (htl _ mw_175) (fun _ h9 => h9) rfl dX3_joinMore_86 (fun v9 hf1652 hV9 => ?_)
              obtain ⟨rfl, ht_ld20⟩ := hV9
              have ht_ld20 : t (ld 20) = (3, 0, 0) := ht_ld20
              refine fx_top (v := .ref (ld 20)) rfl ?_
              refine tk_get (ci := 2) (C := RX2) (T := TX2) (N := 20) (sp := (11, 110, 36, 10)) hx hb htl inX2 hown hK hG ht_ld20 (by decide) tk_no rfl 9 (by decide) (htl _ mw_1464) (fun _ h9 => h9) rfl dX3_joinMore_89 (fun v9 hf1653 hV9 => ?_)
              obtain ⟨rfl, ht_ld110⟩ := hV9
              have ht_ld110 : t (ld 110) = (36, 10, 0) := ht_ld110
              refine fx_top (v := .ref (ld 110)) rfl ?_
              refine lv_aload_n hx hb dX3_joinMore_92 rfl (lv_at hl 1 rfl) ?_
              refine tk_getk (ci := 3) (C := RX3) (T := TX3) (N := 5) (sp := (6, 22, 4, 0)) hx hb htl inX3 hown hK hG ht_a0 (by decide) tk_no rfl 1 (by decide) (htl _ mw_173) (fun _ h9 => h9) rfl hj0_0 dX3_joinMore_93 ?_
              refine lv_iload_n hx hb dX3_joinMore_96 rfl (lv_at hl 2 rfl) ?_
              refine lv_iconst (v := 1) hx hb dX3_joinMore_97 (by decide) ?_
              refine lv_isub hx hb dX3_joinMore_98 ?_
              refine fx_ti (v := 2) (by decide) ?_
              refine tk_iald hx hb hK hG ht_bj (by decide) (fun _ h => h) tk_no (I := 2) (by decide) (by decide) (by decide) dX3_joinMore_99 (fun v1654 hE9 hz9 => ?_)
              have he_v1654 : 0 ≤ v1654.toInt ∧ v1654.toInt ≤ 9 := hE9
              have ev_v1654 : v1654 = f970 (2 : Int32).toNatClampNeg := hj0_4.at hz9 (by decide)
              refine tk_iald hx hb hK hG ht_ld110 (by decide) (fun _ h => h) tk_no rfl (by omega) (by omega) dX3_joinMore_100 (fun v1655 _ hz9 => ?_)
              have hr_v1655 := tk_rng v1655
              have ev_v1655 : v1655 = q2 v1654.toNatClampNeg := hj1_8.at hz9 (by have h9 : v1654.toNatClampNeg = v1654.toInt.toNat := rfl; omega)
              refine lv_aload_n hx hb dX3_joinMore_101 rfl (lv_at hl 1 rfl) ?_
              refine tk_get (ci := 3) (C := RX3) (T := TX3) (N := 5) (sp := (8, 20, 3, 0)) hx hb htl inX3 hown hK hG ht_a0 (by decide) tk_no rfl 0 (by decide) (htl _ mw_175) (fun _ h9 => h9) rfl dX3_joinMore_102 (fun v9 hf1656 hV9 => ?_)
              obtain ⟨rfl, ht_ld20⟩ := hV9
              have ht_ld20 : t (ld 20) = (3, 0, 0) := ht_ld20
              refine fx_top (v := .ref (ld 20)) rfl ?_
              refine tk_get (ci := 2) (C := RX2) (T := TX2) (N := 20) (sp := (11, 110, 36, 10)) hx hb htl inX2 hown hK hG ht_ld20 (by decide) tk_no rfl 9 (by decide) (htl _ mw_1464) (fun _ h9 => h9) rfl dX3_joinMore_105 (fun v9 hf1657 hV9 => ?_)
              obtain ⟨rfl, ht_ld110⟩ := hV9
              have ht_ld110 : t (ld 110) = (36, 10, 0) := ht_ld110
              refine fx_top (v := .ref (ld 110)) rfl ?_
              refine lv_iload hx hb dX3_joinMore_108 (lv_at hl 0 rfl) ?_
              refine tk_iald hx hb hK hG ht_ld110 (by decide) (fun _ h => h) tk_no rfl (by omega) (by omega) dX3_joinMore_110 (fun v1658 _ hz9 => ?_)
              have hr_v1658 := tk_rng v1658
              have ev_v1658 : v1658 = q2 v969.toNatClampNeg := hj1_8.at hz9 (by have h9 : v969.toNatClampNeg = v969.toInt.toNat := rfl; omega)
              refine lv_icmp_ne (tgt := 118) hx hb dX3_joinMore_111 (by decide) (fun c9 => ?_) (fun c9 => ?_)
              · have hc1659 : ¬ (v1655.toInt = v1658.toInt) := fun h9 => c9 ((fi_eq rfl rfl).mpr h9)
                refine lv_iconst (v := 0) hx hb dX3_joinMore_118 (by decide) ?_
                refine lv_istore (lv' := [(6, .int 0), (5, .int v969), (0, .ref a0), (1, .int 3), (2, .int p2), (3, .int p3), (4, .int p4)]) hx hb dX3_joinMore_119 hl (by decide) rfl (fun ls hl => ?_)
                refine lv_aload_n hx hb dX3_joinMore_121 rfl (lv_at hl 2 rfl) ?_
                refine tk_getk (ci := 3) (C := RX3) (T := TX3) (N := 5) (sp := (6, 22, 4, 0)) hx hb htl inX3 hown hK hG ht_a0 (by decide) tk_no rfl 1 (by decide) (htl _ mw_173) (fun _ h9 => h9) rfl hj0_0 dX3_joinMore_122 ?_
                refine lv_iload_n hx hb dX3_joinMore_125 rfl (lv_at hl 3 rfl) ?_
                refine lv_iload hx hb dX3_joinMore_126 (lv_at hl 1 rfl) ?_
                refine tk_iastC hx hb hK hG hS ht_bj (by decide) (fun _ => Iff.rfl) tk_no (I := 3) (by decide) (by decide) (by decide) (show 0 ≤ (v969 : Int32).toInt ∧ (v969 : Int32).toInt ≤ 9 from ⟨by omega, by omega⟩) (tk_w.of ht_bj (by decide) (List.mem_of_getElem? (i := 0) rfl) (Nat.le_refl _) (Nat.le_refl _)) dX3_joinMore_128 hj0_4 (fun H locs hG hS hq9 hj1661 => ?_)
                have hj1661 : tk_c H bj 4 (upd f970 (3 : Int32).toNatClampNeg v969) := hj1661
                have hj0_0 := hj0_0.kept (hq9 _ (tk_ne ht_a0 ht_bj (Or.inl (by decide))))
                have hj0_1 := hj0_1.kept (hq9 _ (tk_ne ht_a0 ht_bj (Or.inl (by decide))))
                have hj1_0 := hj1_0.kept (hq9 _ (tk_ne ht_ld20 ht_bj (Or.inl (by decide))))
                have hj1_1 := hj1_1.kept (hq9 _ (tk_ne ht_ld20 ht_bj (Or.inl (by decide))))
                have hj1_2 := hj1_2.kept (hq9 _ (tk_ne ht_ld20 ht_bj (Or.inl (by decide))))
                have hj1_3 := hj1_3.kept (hq9 _ (tk_ne ht_ld20 ht_bj (Or.inl (by decide))))
                have hj1_4 := hj1_4.kept (hq9 _ (tk_ne ht_ld70 ht_bj (Or.inl (by decide))))
                have hj1_5 := hj1_5.kept (hq9 _ (tk_ne ht_ld80 ht_bj (Or.inl (by decide))))
                have hj1_6 := hj1_6.kept (hq9 _ (tk_ne ht_ld90 ht_bj (Or.inl (by decide))))
                have hj1_7 := hj1_7.kept (hq9 _ (tk_ne ht_ld100 ht_bj (Or.inl (by decide))))
                have hj1_8 := hj1_8.kept (hq9 _ (tk_ne ht_ld110 ht_bj (Or.inl (by decide))))
                have hj1_9 := hj1_9.kept (hq9 _ (tk_ne ht_ld120 ht_bj (Or.inl (by decide))))
                have hf866 := hf866.kept (hq9 _ (tk_ne ht_a0 ht_bj (Or.inl (by decide))))
                have hf868 := hf868.kept (hq9 _ (tk_ne ht_a0 ht_bj (Or.inl (by decide))))
                have hj871 := hj871.kept (hq9 _ (tk_ne ht_bb ht_bj (Or.inl (by decide))))
                refine lv_iload_n hx hb dX3_joinMore_129 rfl (lv_at hl 5 rfl) ?_
                refine lv_aload_n hx hb dX3_joinMore_130 rfl (lv_at hl 2 rfl) ?_
                refine tk_get (ci := 3) (C := RX3) (T := TX3) (N := 5) (sp := (8, 20, 3, 0)) hx hb htl inX3 hown hK hG ht_a0 (by decide) tk_no rfl 0 (by decide) (htl _ mw_175) (fun _ h9 => h9) rfl dX3_joinMore_131 (fun v9 hf1662 hV9 => ?_)
                obtain ⟨rfl, ht_ld20⟩ := hV9
                have ht_ld20 : t (ld 20) = (3, 0, 0) := ht_ld20
                refine fx_top (v := .ref (ld 20)) rfl ?_
                refine tk_get (ci := 2) (C := RX2) (T := TX2) (N := 20) (sp := (11, 100, 35, 10)) hx hb htl inX2 hown hK hG ht_ld20 (by decide) tk_no rfl 8 (by decide) (htl _ mw_1465) (fun _ h9 => h9) rfl dX3_joinMore_134 (fun v9 hf1663 hV9 => ?_)
                obtain ⟨rfl, ht_ld100⟩ := hV9
                have ht_ld100 : t (ld 100) = (35, 10, 0) := ht_ld100
                refine fx_top (v := .ref (ld 100)) rfl ?_
                refine lv_iload hx hb dX3_joinMore_137 (lv_at hl 1 rfl) ?_
                refine tk_iald hx hb hK hG ht_ld100 (by decide) (fun _ h => h) tk_no rfl (by omega) (by omega) dX3_joinMore_139 (fun v1664 _ hz9 => ?_)
                have hr_v1664 := tk_rng v1664
                have ev_v1664 : v1664 = q1 v969.toNatClampNeg := hj1_7.at hz9 (by have h9 : v969.toNatClampNeg = v969.toInt.toNat := rfl; omega)
                have he_v1664 : 1 ≤ v1664.toInt ∧ v1664.toInt ≤ 99 := by rw [ev_v1664]; exact (hqr v969.toInt.toNat (by omega)).1
                refine lv_iadd hx hb dX3_joinMore_140 ?_
                refine tk_add rfl rfl (by omega) (by omega) (fun v1665 h_v1665 => ?_)
                refine lv_iload hx hb dX3_joinMore_141 (lv_at hl 0 rfl) ?_
                refine lv_if_eq (tgt := 150) hx hb dX3_joinMore_143 (by decide) (fun _ => ?_) (fun c9 => absurd (by decide) c9)
                refine lv_iconst (v := 0) hx hb dX3_joinMore_150 (by decide) ?_
                refine lv_iadd hx hb dX3_joinMore_151 ?_
                refine tk_add rfl (show (0 : Int32).toInt = 0 by decide) (by omega) (by omega) (fun v1666 h_v1666 => ?_)
                refine lv_istore (lv' := [(7, .int v1666), (6, .int 0), (5, .int v969), (0, .ref a0), (1, .int 3), (2, .int p2), (3, .int p3), (4, .int p4)]) hx hb dX3_joinMore_152 hl (by decide) rfl (fun ls hl => ?_)
                refine lv_aload_n hx hb dX3_joinMore_154 rfl (lv_at hl 3 rfl) ?_
                refine lv_iload_n hx hb dX3_joinMore_155 rfl (lv_at hl 4 rfl) ?_
                refine lv_iconst (v := 1) hx hb dX3_joinMore_156 (by decide) ?_
                refine lv_iadd hx hb dX3_joinMore_157 ?_
                refine fx_ti (v := 4) (by decide) ?_
                refine lv_iload_n hx hb dX3_joinMore_158 rfl (lv_at hl 5 rfl) ?_
                refine lv_iconst (v := 1) hx hb dX3_joinMore_159 (by decide) ?_
                refine lv_iload hx hb dX3_joinMore_160 (lv_at hl 2 rfl) ?_
                obtain ⟨v1667, hm_v1667⟩ : ∃ z : Int32, (1 : Int32) <<< (v969 &&& 31) = z := ⟨_, rfl⟩
                refine lv_ishl hx hb dX3_joinMore_162 ?_
                refine fx_ti hm_v1667 ?_
                have hq_v1667 := tk_rng v1667
                obtain ⟨v1668, hm_v1668⟩ : ∃ z : Int32, p2 ||| v1667 = z := ⟨_, rfl⟩
                refine lv_ior hx hb dX3_joinMore_163 ?_
                refine fx_ti hm_v1668 ?_
                have hq_v1668 := tk_rng v1668
                refine lv_iload hx hb dX3_joinMore_164 (lv_at hl 0 rfl) ?_
                refine lv_iload hx hb dX3_joinMore_166 (lv_at hl 7 rfl) ?_
                refine lv_aload_n hx hb dX3_joinMore_168 rfl (lv_at hl 3 rfl) ?_
                refine tk_get (ci := 3) (C := RX3) (T := TX3) (N := 5) (sp := (8, 20, 3, 0)) hx hb htl inX3 hown hK hG ht_a0 (by decide) tk_no rfl 0 (by decide) (htl _ mw_175) (fun _ h9 => h9) rfl dX3_joinMore_169 (fun v9 hf1669 hV9 => ?_)
                obtain ⟨rfl, ht_ld20⟩ := hV9
                have ht_ld20 : t (ld 20) = (3, 0, 0) := ht_ld20
                refine fx_top (v := .ref (ld 20)) rfl ?_
                refine tk_get (ci := 2) (C := RX2) (T := TX2) (N := 20) (sp := (11, 120, 37, 10)) hx hb htl inX2 hown hK hG ht_ld20 (by decide) tk_no rfl 10 (by decide) (htl _ mw_1463) (fun _ h9 => h9) rfl dX3_joinMore_172 (fun v9 hf1670 hV9 => ?_)
                obtain ⟨rfl, ht_ld120⟩ := hV9
                have ht_ld120 : t (ld 120) = (37, 10, 0) := ht_ld120
                refine fx_top (v := .ref (ld 120)) rfl ?_
                refine lv_iload hx hb dX3_joinMore_175 (lv_at hl 2 rfl) ?_
                refine tk_iald hx hb hK hG ht_ld120 (by decide) (fun _ h => h) tk_no rfl (by omega) (by omega) dX3_joinMore_177 (fun v1671 _ hz9 => ?_)
                have hr_v1671 := tk_rng v1671
                have ev_v1671 : v1671 = q3 v969.toNatClampNeg := hj1_9.at hz9 (by have h9 : v969.toNatClampNeg = v969.toInt.toNat := rfl; omega)
                have he_v1671 : 1 ≤ v1671.toInt ∧ v1671.toInt ≤ 9 := by rw [ev_v1671]; exact (hqr v969.toInt.toNat (by omega)).2
                have hee_v1671 : v1671.toInt = v1649.toInt := congrArg Int32.toInt (ev_v1671.trans ev_v1649.symm)
                have hle_v1671 : v1671.toInt ≤ p4.toInt := by omega
                refine lv_isub hx hb dX3_joinMore_178 ?_
                refine tk_sub rfl rfl (by omega) (by omega) (fun v1672 h_v1672 => ?_)
                have hk_4 : (4 : Int32).toInt = 4 := by decide
                have hzr_v1654 := mU_at hmu hag (j := 2) (by decide)
                have hzr_v1654 : 0 ≤ v1654.toInt ∧ v1654.toInt < n2.toInt := by rw [ev_v1654]; exact hzr_v1654
                refine tk_Vv (As := [.int 4, .int v1668, .int v1666, .int v1672]) (rest := []) (ci := 3) ⟨hx, hb, hml, hown, hts⟩ hK hG hZ hS (k_X3_joinMore_4_x l D cy ld t a0 v1668 v1666 v1672 LL bj bb v972 v971 (upd f970 (3 : Int32).toNatClampNeg v969) f973 n0 n1 n2 n3 fh fs fk q1 q2 q3 ht_a0 ht_bj ht_bb ht_ld20 ht_ld70 ht_ld80 ht_ld90 ht_ld100 ht_ld110 ht_ld120 (by omega) (by omega) (by omega) (by omega) (by omega) (by omega) (by omega) (by omega) (by omega) (by omega) (by omega) (by omega) (by omega) (by omega) hqr (mU_next hmu hag (by omega) (by omega) (by omega) (by rw [hm_v1643, hm_v1644]; omega) (by rw [hm_v1667, hm_v1668]) ((mq_at (show ((v969.toInt.toNat : Nat) : Int) < n2.toInt by omega)).trans ev_v1664.symm) ((mq_at (show ((v969.toInt.toNat : Nat) : Int) < n2.toInt by omega)).trans ev_v1671.symm) (by decide) (mBon_n (by decide) (by decide) rfl ev_v1654 (by have e7 : mq n2.toInt q2 v969.toInt.toNat = v1658 := (mq_at (by omega)).trans ev_v1658.symm; have e8 : mq n2.toInt q2 v1654.toInt.toNat = v1655 := (mq_at (by omega)).trans ev_v1655.symm; rw [e7, e8]; intro h9; have h8 := congrArg Int32.toInt h9; omega)) (by omega) (by omega))) ⟨⟨hj0_0, hj0_1, hf868, hf866, hj1661, hj871⟩, ⟨hj1_0, hj1_1, hj1_2, hj1_3, hj1_4, hj1_5, hj1_6, hj1_7, hj1_8, hj1_9⟩⟩ ⟨callB_of 4 hts (wl_in mw_1460) rfl rfl rfl (htl _ mw_48) (htl _ mw_1457) hd_yX3_joinMore ⟨(Nat.le_of_ble_eq_true rfl), (Nat.le_of_ble_eq_true rfl)⟩, htl _ mw_1458, htl _ mw_1459⟩ ht_a0 (by decide) tk_no rfl (tk_w.pick [1, 2] rfl) rfl hl.1 rfl (Nat.le_of_ble_eq_true rfl) dX3_joinMore_179 ⟨(Nat.le_of_ble_eq_true rfl), (Nat.le_of_ble_eq_true rfl)⟩ (fun H locs hpo hG hS hq9 => ?_)
                have hj1_0 := hj1_0.call hq9 (tk_w.no ht_ld20 (by decide))
                have hj1_1 := hj1_1.call hq9 (tk_w.no ht_ld20 (by decide))
                have hj1_2 := hj1_2.call hq9 (tk_w.no ht_ld20 (by decide))
                have hj1_3 := hj1_3.call hq9 (tk_w.no ht_ld20 (by decide))
                have hj1_4 := hj1_4.call hq9 (tk_w.no ht_ld70 (by decide))
                have hj1_5 := hj1_5.call hq9 (tk_w.no ht_ld80 (by decide))
                have hj1_6 := hj1_6.call hq9 (tk_w.no ht_ld90 (by decide))
                have hj1_7 := hj1_7.call hq9 (tk_w.no ht_ld100 (by decide))
                have hj1_8 := hj1_8.call hq9 (tk_w.no ht_ld110 (by decide))
                have hj1_9 := hj1_9.call hq9 (tk_w.no ht_ld120 (by decide))
                have hj1661 := hj1661.call hq9 (tk_w.no ht_bj (by decide))
                obtain ⟨hraw1674, ⟨hj1675, hj1676, hj1677, hj1678, hj1679, hj1680, hj1681, hj1682, hj1683, hj1684⟩⟩ := hpo
                obtain ⟨v1691, v1692, f1693, f1694, ⟨hM_1685, hM_1686, hM_1687, hM_1688, hM_1689, hM_1690⟩, ⟨hlo_v1691, hhi_v1691⟩, hg1695, hP1696⟩ := hraw1674
                have hq_v1692 := tk_rng v1692
                obtain ⟨v1697, h_v1697, e_v1697⟩ := tk_inc v969 1 (by decide) (by omega) (by omega)
                refine lv_iinc (v := v1697) (lv' := [(5, .int v1697), (7, .int v1666), (6, .int 0), (0, .ref a0), (1, .int 3), (2, .int p2), (3, .int p3), (4, .int p4)]) hx hb dX3_joinMore_182 hl (k := 2) rfl e_v1697 (by decide) rfl (fun ls hl => ?_)
                refine lv_goto (tgt := 45) hx hb dX3_joinMore_185 (by decide) ?_
                exact ih_l1640 v1697 f1693 v1692 v1691 f1694 _ _ (by omega) (by omega) (by omega) (by omega) (by omega) hG hS hM_1685 hM_1686 hM_1689 hj1675 hj1676 hj1677 hj1678 hj1679 hj1680 hj1681 hj1682 hj1683 hj1684 hM_1688 hM_1687 hM_1690 (mI_last (by omega) hmI9 (by omega) (by omega) (by omega) hmu.1 (mU_free hmu (by omega) (by omega) (by rw [hm_v1643, hm_v1644]; omega)) (by have h7 := hmu.2.2.2.1; have e7 : mq n2.toInt q3 v969.toInt.toNat = v1649 := (mq_at (by omega)).trans ev_v1649.symm; rw [e7]; omega) rfl hag (by decide) hP1696) ((hg1695.mono (by decide)).trans (hag.pd (by decide))) _ (lv_sub hl [0, 3, 4, 5, 6, 7] rfl)
              · have hc1659 : v1655.toInt = v1658.toInt := (fi_eq rfl rfl).mp c9
                refine lv_iconst (v := 1) hx hb dX3_joinMore_114 (by decide) ?_
                refine lv_goto (tgt := 119) hx hb dX3_joinMore_115 (by decide) ?_
                refine lv_istore (lv' := [(6, .int 1), (5, .int v969), (0, .ref a0), (1, .int 3), (2, .int p2), (3, .int p3), (4, .int p4)]) hx hb dX3_joinMore_119 hl (by decide) rfl (fun ls hl => ?_)
                refine lv_aload_n hx hb dX3_joinMore_121 rfl (lv_at hl 2 rfl) ?_
                refine tk_getk (ci := 3) (C := RX3) (T := TX3) (N := 5) (sp := (6, 22, 4, 0)) hx hb htl inX3 hown hK hG ht_a0 (by decide) tk_no rfl 1 (by decide) (htl _ mw_173) (fun _ h9 => h9) rfl hj0_0 dX3_joinMore_122 ?_
                refine lv_iload_n hx hb dX3_joinMore_125 rfl (lv_at hl 3 rfl) ?_
                refine lv_iload hx hb dX3_joinMore_126 (lv_at hl 1 rfl) ?_
                refine tk_iastC hx hb hK hG hS ht_bj (by decide) (fun _ => Iff.rfl) tk_no (I := 3) (by decide) (by decide) (by decide) (show 0 ≤ (v969 : Int32).toInt ∧ (v969 : Int32).toInt ≤ 9 from ⟨by omega, by omega⟩) (tk_w.of ht_bj (by decide) (List.mem_of_getElem? (i := 0) rfl) (Nat.le_refl _) (Nat.le_refl _)) dX3_joinMore_128 hj0_4 (fun H locs hG hS hq9 hj1699 => ?_)
                have hj1699 : tk_c H bj 4 (upd f970 (3 : Int32).toNatClampNeg v969) := hj1699
                have hj0_0 := hj0_0.kept (hq9 _ (tk_ne ht_a0 ht_bj (Or.inl (by decide))))
                have hj0_1 := hj0_1.kept (hq9 _ (tk_ne ht_a0 ht_bj (Or.inl (by decide))))
                have hj1_0 := hj1_0.kept (hq9 _ (tk_ne ht_ld20 ht_bj (Or.inl (by decide))))
                have hj1_1 := hj1_1.kept (hq9 _ (tk_ne ht_ld20 ht_bj (Or.inl (by decide))))
                have hj1_2 := hj1_2.kept (hq9 _ (tk_ne ht_ld20 ht_bj (Or.inl (by decide))))
                have hj1_3 := hj1_3.kept (hq9 _ (tk_ne ht_ld20 ht_bj (Or.inl (by decide))))
                have hj1_4 := hj1_4.kept (hq9 _ (tk_ne ht_ld70 ht_bj (Or.inl (by decide))))
                have hj1_5 := hj1_5.kept (hq9 _ (tk_ne ht_ld80 ht_bj (Or.inl (by decide))))
                have hj1_6 := hj1_6.kept (hq9 _ (tk_ne ht_ld90 ht_bj (Or.inl (by decide))))
                have hj1_7 := hj1_7.kept (hq9 _ (tk_ne ht_ld100 ht_bj (Or.inl (by decide))))
                have hj1_8 := hj1_8.kept (hq9 _ (tk_ne ht_ld110 ht_bj (Or.inl (by decide))))
                have hj1_9 := hj1_9.kept (hq9 _ (tk_ne ht_ld120 ht_bj (Or.inl (by decide))))
                have hf866 := hf866.kept (hq9 _ (tk_ne ht_a0 ht_bj (Or.inl (by decide))))
                have hf868 := hf868.kept (hq9 _ (tk_ne ht_a0 ht_bj (Or.inl (by decide))))
                have hj871 := hj871.kept (hq9 _ (tk_ne ht_bb ht_bj (Or.inl (by decide))))
                refine lv_iload_n hx hb dX3_joinMore_129 rfl (lv_at hl 5 rfl) ?_
                refine lv_aload_n hx hb dX3_joinMore_130 rfl (lv_at hl 2 rfl) ?_
                refine tk_get (ci := 3) (C := RX3) (T := TX3) (N := 5) (sp := (8, 20, 3, 0)) hx hb htl inX3 hown hK hG ht_a0 (by decide) tk_no rfl 0 (by decide) (htl _ mw_175) (fun _ h9 => h9) rfl dX3_joinMore_131 (fun v9 hf1700 hV9 => ?_)
                obtain ⟨rfl, ht_ld20⟩ := hV9
                have ht_ld20 : t (ld 20) = (3, 0, 0) := ht_ld20
                refine fx_top (v := .ref (ld 20)) rfl ?_
                refine tk_get (ci := 2) (C := RX2) (T := TX2) (N := 20) (sp := (11, 100, 35, 10)) hx hb htl inX2 hown hK hG ht_ld20 (by decide) tk_no rfl 8 (by decide) (htl _ mw_1465) (fun _ h9 => h9) rfl dX3_joinMore_134 (fun v9 hf1701 hV9 => ?_)
                obtain ⟨rfl, ht_ld100⟩ := hV9
                have ht_ld100 : t (ld 100) = (35, 10, 0) := ht_ld100
                refine fx_top (v := .ref (ld 100)) rfl ?_
                refine lv_iload hx hb dX3_joinMore_137 (lv_at hl 1 rfl) ?_
                refine tk_iald hx hb hK hG ht_ld100 (by decide) (fun _ h => h) tk_no rfl (by omega) (by omega) dX3_joinMore_139 (fun v1702 _ hz9 => ?_)
                have hr_v1702 := tk_rng v1702
                have ev_v1702 : v1702 = q1 v969.toNatClampNeg := hj1_7.at hz9 (by have h9 : v969.toNatClampNeg = v969.toInt.toNat := rfl; omega)
                have he_v1702 : 1 ≤ v1702.toInt ∧ v1702.toInt ≤ 99 := by rw [ev_v1702]; exact (hqr v969.toInt.toNat (by omega)).1
                refine lv_iadd hx hb dX3_joinMore_140 ?_
                refine tk_add rfl rfl (by omega) (by omega) (fun v1703 h_v1703 => ?_)
                refine lv_iload hx hb dX3_joinMore_141 (lv_at hl 0 rfl) ?_
                refine lv_if_eq (tgt := 150) hx hb dX3_joinMore_143 (by decide) (fun c9 => absurd c9 (by decide)) (fun _ => ?_)
                refine lv_iconst (v := 3) hx hb dX3_joinMore_146 (by decide) ?_
                refine lv_goto (tgt := 151) hx hb dX3_joinMore_147 (by decide) ?_
                refine lv_iadd hx hb dX3_joinMore_151 ?_
                refine tk_add rfl (show (3 : Int32).toInt = 3 by decide) (by omega) (by omega) (fun v1704 h_v1704 => ?_)
                refine lv_istore (lv' := [(7, .int v1704), (6, .int 1), (5, .int v969), (0, .ref a0), (1, .int 3), (2, .int p2), (3, .int p3), (4, .int p4)]) hx hb dX3_joinMore_152 hl (by decide) rfl (fun ls hl => ?_)
                refine lv_aload_n hx hb dX3_joinMore_154 rfl (lv_at hl 3 rfl) ?_
                refine lv_iload_n hx hb dX3_joinMore_155 rfl (lv_at hl 4 rfl) ?_
                refine lv_iconst (v := 1) hx hb dX3_joinMore_156 (by decide) ?_
                refine lv_iadd hx hb dX3_joinMore_157 ?_
                refine fx_ti (v := 4) (by decide) ?_
                refine lv_iload_n hx hb dX3_joinMore_158 rfl (lv_at hl 5 rfl) ?_
                refine lv_iconst (v := 1) hx hb dX3_joinMore_159 (by decide) ?_
                refine lv_iload hx hb dX3_joinMore_160 (lv_at hl 2 rfl) ?_
                obtain ⟨v1705, hm_v1705⟩ : ∃ z : Int32, (1 : Int32) <<< (v969 &&& 31) = z := ⟨_, rfl⟩
                refine lv_ishl hx hb dX3_joinMore_162 ?_
                refine fx_ti hm_v1705 ?_
                have hq_v1705 := tk_rng v1705
                obtain ⟨v1706, hm_v1706⟩ : ∃ z : Int32, p2 ||| v1705 = z := ⟨_, rfl⟩
                refine lv_ior hx hb dX3_joinMore_163 ?_
                refine fx_ti hm_v1706 ?_
                have hq_v1706 := tk_rng v1706
                refine lv_iload hx hb dX3_joinMore_164 (lv_at hl 0 rfl) ?_
                refine lv_iload hx hb dX3_joinMore_166 (lv_at hl 7 rfl) ?_
                refine lv_aload_n hx hb dX3_joinMore_168 rfl (lv_at hl 3 rfl) ?_
                refine tk_get (ci := 3) (C := RX3) (T := TX3) (N := 5) (sp := (8, 20, 3, 0)) hx hb htl inX3 hown hK hG ht_a0 (by decide) tk_no rfl 0 (by decide) (htl _ mw_175) (fun _ h9 => h9) rfl dX3_joinMore_169 (fun v9 hf1707 hV9 => ?_)
                obtain ⟨rfl, ht_ld20⟩ := hV9
                have ht_ld20 : t (ld 20) = (3, 0, 0) := ht_ld20
                refine fx_top (v := .ref (ld 20)) rfl ?_
                refine tk_get (ci := 2) (C := RX2) (T := TX2) (N := 20) (sp := (11, 120, 37, 10)) hx hb htl inX2 hown hK hG ht_ld20 (by decide) tk_no rfl 10 (by decide) (htl _ mw_1463) (fun _ h9 => h9) rfl dX3_joinMore_172 (fun v9 hf1708 hV9 => ?_)
                obtain ⟨rfl, ht_ld120⟩ := hV9
                have ht_ld120 : t (ld 120) = (37, 10, 0) := ht_ld120
                refine fx_top (v := .ref (ld 120)) rfl ?_
                refine lv_iload hx hb dX3_joinMore_175 (lv_at hl 2 rfl) ?_
                refine tk_iald hx hb hK hG ht_ld120 (by decide) (fun _ h => h) tk_no rfl (by omega) (by omega) dX3_joinMore_177 (fun v1709 _ hz9 => ?_)
                have hr_v1709 := tk_rng v1709
                have ev_v1709 : v1709 = q3 v969.toNatClampNeg := hj1_9.at hz9 (by have h9 : v969.toNatClampNeg = v969.toInt.toNat := rfl; omega)
                have he_v1709 : 1 ≤ v1709.toInt ∧ v1709.toInt ≤ 9 := by rw [ev_v1709]; exact (hqr v969.toInt.toNat (by omega)).2
                have hee_v1709 : v1709.toInt = v1649.toInt := congrArg Int32.toInt (ev_v1709.trans ev_v1649.symm)
                have hle_v1709 : v1709.toInt ≤ p4.toInt := by omega
                refine lv_isub hx hb dX3_joinMore_178 ?_
                refine tk_sub rfl rfl (by omega) (by omega) (fun v1710 h_v1710 => ?_)
                have hk_4 : (4 : Int32).toInt = 4 := by decide
                have hzr_v1654 := mU_at hmu hag (j := 2) (by decide)
                have hzr_v1654 : 0 ≤ v1654.toInt ∧ v1654.toInt < n2.toInt := by rw [ev_v1654]; exact hzr_v1654
                refine tk_Vv (As := [.int 4, .int v1706, .int v1704, .int v1710]) (rest := []) (ci := 3) ⟨hx, hb, hml, hown, hts⟩ hK hG hZ hS (k_X3_joinMore_4_x l D cy ld t a0 v1706 v1704 v1710 LL bj bb v972 v971 (upd f970 (3 : Int32).toNatClampNeg v969) f973 n0 n1 n2 n3 fh fs fk q1 q2 q3 ht_a0 ht_bj ht_bb ht_ld20 ht_ld70 ht_ld80 ht_ld90 ht_ld100 ht_ld110 ht_ld120 (by omega) (by omega) (by omega) (by omega) (by omega) (by omega) (by omega) (by omega) (by omega) (by omega) (by omega) (by omega) (by omega) (by omega) hqr (mU_next hmu hag (by omega) (by omega) (by omega) (by rw [hm_v1643, hm_v1644]; omega) (by rw [hm_v1705, hm_v1706]) ((mq_at (show ((v969.toInt.toNat : Nat) : Int) < n2.toInt by omega)).trans ev_v1702.symm) ((mq_at (show ((v969.toInt.toNat : Nat) : Int) < n2.toInt by omega)).trans ev_v1709.symm) (by decide) (mBon_y (by decide) (by decide) rfl ev_v1654 (by have e7 : mq n2.toInt q2 v969.toInt.toNat = v1658 := (mq_at (by omega)).trans ev_v1658.symm; have e8 : mq n2.toInt q2 v1654.toInt.toNat = v1655 := (mq_at (by omega)).trans ev_v1655.symm; rw [e7, e8]; exact m_eq (by omega))) (by omega) (by omega))) ⟨⟨hj0_0, hj0_1, hf868, hf866, hj1699, hj871⟩, ⟨hj1_0, hj1_1, hj1_2, hj1_3, hj1_4, hj1_5, hj1_6, hj1_7, hj1_8, hj1_9⟩⟩ ⟨callB_of 4 hts (wl_in mw_1460) rfl rfl rfl (htl _ mw_48) (htl _ mw_1457) hd_yX3_joinMore ⟨(Nat.le_of_ble_eq_true rfl), (Nat.le_of_ble_eq_true rfl)⟩, htl _ mw_1458, htl _ mw_1459⟩ ht_a0 (by decide) tk_no rfl (tk_w.pick [1, 2] rfl) rfl hl.1 rfl (Nat.le_of_ble_eq_true rfl) dX3_joinMore_179 ⟨(Nat.le_of_ble_eq_true rfl), (Nat.le_of_ble_eq_true rfl)⟩ (fun H locs hpo hG hS hq9 => ?_)
                have hj1_0 := hj1_0.call hq9 (tk_w.no ht_ld20 (by decide))
                have hj1_1 := hj1_1.call hq9 (tk_w.no ht_ld20 (by decide))
                have hj1_2 := hj1_2.call hq9 (tk_w.no ht_ld20 (by decide))
                have hj1_3 := hj1_3.call hq9 (tk_w.no ht_ld20 (by decide))
                have hj1_4 := hj1_4.call hq9 (tk_w.no ht_ld70 (by decide))
                have hj1_5 := hj1_5.call hq9 (tk_w.no ht_ld80 (by decide))
                have hj1_6 := hj1_6.call hq9 (tk_w.no ht_ld90 (by decide))
                have hj1_7 := hj1_7.call hq9 (tk_w.no ht_ld100 (by decide))
                have hj1_8 := hj1_8.call hq9 (tk_w.no ht_ld110 (by decide))
                have hj1_9 := hj1_9.call hq9 (tk_w.no ht_ld120 (by decide))
                have hj1699 := hj1699.call hq9 (tk_w.no ht_bj (by decide))
                obtain ⟨hraw1712, ⟨hj1713, hj1714, hj1715, hj1716, hj1717, hj1718, hj1719, hj1720, hj1721, hj1722⟩⟩ := hpo
                obtain ⟨v1729, v1730, f1731, f1732, ⟨hM_1723, hM_1724, hM_1725, hM_1726, hM_1727, hM_1728⟩, ⟨hlo_v1729, hhi_v1729⟩, hg1733, hP1734⟩ := hraw1712
                have hq_v1730 := tk_rng v1730
                obtain ⟨v1735, h_v1735, e_v1735⟩ := tk_inc v969 1 (by decide) (by omega) (by omega)
                refine lv_iinc (v := v1735) (lv' := [(5, .int v1735), (7, .int v1704), (6, .int 1), (0, .ref a0), (1, .int 3), (2, .int p2), (3, .int p3), (4, .int p4)]) hx hb dX3_joinMore_182 hl (k := 2) rfl e_v1735 (by decide) rfl (fun ls hl => ?_)
                refine lv_goto (tgt := 45) hx hb dX3_joinMore_185 (by decide) ?_
                exact ih_l1640 v1735 f1731 v1730 v1729 f1732 _ _ (by omega) (by omega) (by omega) (by omega) (by omega) hG hS hM_1723 hM_1724 hM_1727 hj1713 hj1714 hj1715 hj1716 hj1717 hj1718 hj1719 hj1720 hj1721 hj1722 hM_1726 hM_1725 hM_1728 (mI_last (by omega) hmI9 (by omega) (by omega) (by omega) hmu.1 (mU_free hmu (by omega) (by omega) (by rw [hm_v1643, hm_v1644]; omega)) (by have h7 := hmu.2.2.2.1; have e7 : mq n2.toInt q3 v969.toInt.toNat = v1649 := (mq_at (by omega)).trans ev_v1649.symm; rw [e7]; omega) rfl hag (by decide) hP1734) ((hg1733.mono (by decide)).trans (hag.pd (by decide))) _ (lv_sub hl [0, 3, 4, 5, 6, 7] rfl)
    have hk_0 : (0 : Int32).toInt = 0 := by decide
    have hk_3 : (3 : Int32).toInt = 3 := by decide
    have hk_0 : (0 : Int32).toInt = 0 := by decide
    exact hl1640 11 0 J p3 3 J _ _ (by omega) (by omega) (by omega) (by omega) (by omega) hG hS hj0_0 hj0_1 hj0_4 hj1_0 hj1_1 hj1_2 hj1_3 hj1_4 hj1_5 hj1_6 hj1_7 hj1_8 hj1_9 hf866 hf868 hj871 (mI_top (by decide) (by decide) hmu.2.2.1 (show bs.toInt < p3.toInt by omega) (by decide) (mAg.refl _ _)) (mAg.refl _ _) _ (lv_sub hl [0, 1, 2, 3, 4, 5] rfl)
