set_option maxHeartbeats 4000000 in
set_option maxRecDepth 100000 in
theorem k_X12_end_x (l : Launch) (D : va_G) (cy : Nat → ClassId) (ld : Nat → Nat) (t : tk_T) (a0 : Nat) (p1 : Int32) (g0 : Int32) (g15 : Int32) (ht_a0 : t a0 = (13, 0, 0)) (hp_0 : 0 ≤ g0.toInt) (hp_1 : g0.toInt ≤ 400) (hp_2 : (-2147483648) ≤ g15.toInt) (hp_3 : g15.toInt ≤ 2147483647) : Met l yX12_end (wl yX12_end cX12_end 2 (some .int)) ({ frames := 4, cells := 0, slots := 0, locals := 210 }) (tp D cy ld t [] [.ref a0, .int p1] (fun H => tk_f D H a0 12 13 (.int g0) ∧ tk_f D H a0 12 15 (.int g15))) (ti D cy ld t [] (fun r H => (0 ≤ p1.toInt → 0 ≤ g0.toInt + (-1) * p1.toInt → (-1) * p1.toInt + r.toInt = 0) ∧ (p1.toInt ≤ (-1) → r.toInt + 1 = 0) ∧ (0 ≤ (-1) * g0.toInt + p1.toInt + (-1) → r.toInt + 1 = 0) ∧ tk_f D H a0 12 15 (.int g15) ∧ (∃ n9 : Int32, tk_f D H a0 12 13 (.int n9) ∧ (0 ≤ p1.toInt → 0 ≤ g0.toInt + (-1) * p1.toInt → n9.toInt + (-1) * p1.toInt = 0) ∧ (p1.toInt ≤ (-1) → (-1) * g0.toInt + n9.toInt = 0) ∧ (0 ≤ (-1) * g0.toInt + p1.toInt + (-1) → (-1) * g0.toInt + n9.toInt = 0))) (tk_w t [(13, 0, 0)])) 0 0 (tk_w t [(13, 0, 0)]) := by
  refine tk_met (y := yX12_end) (cc := cX12_end) (maxL := 2) (ret := (some .int)) (av := [.ref a0, .int p1]) _ _ (by decide) (Nat.le_of_ble_eq_true rfl) ?_
  intro p e s m args below meth c hx hb hr hml hts htl hown hlocks hK H locs hH hG hS hB hZ ls hl
  have hown : s.vm.findClass RX12 = some m.cls := hown
  have hl : lv_has ls 2 [(0, .ref a0), (1, .int p1)] := hl
  obtain ⟨hg_0, hg_1⟩ := hB
  have hr_p1 := tk_rng p1
  refine lv_iload_n hx hb dX12_end_0 rfl (lv_at hl 1 rfl) ?_
  refine lv_iconst (v := 0) hx hb dX12_end_1 (by decide) ?_
  refine lv_aload_n hx hb dX12_end_2 rfl (lv_at hl 0 rfl) ?_
  refine tk_getk (ci := 12) (C := RX12) (T := TX12) (N := 17) (sp := (0, 0, 400, 0)) hx hb htl inX12 hown hK hG ht_a0 (by decide) tk_no rfl 13 (by decide) (htl _ mw_422) (fun _ h9 => h9) rfl hg_0 dX12_end_3 ?_
  have hk_0 : (0 : Int32).toInt = 0 := by decide
  refine tk_Si (As := [.int p1, .int 0, .int g0]) (rest := []) ⟨hx, hb, hml, hown, hts⟩ hK hG hZ hS (k_X12_within_x l D cy ld t _ p1 0 g0) trivial ⟨callB_of 3 hts (wl_in mw_262) rfl rfl rfl (htl _ mw_2) (htl _ mw_277) hd_yX12_within ⟨(Nat.le_of_ble_eq_true rfl), (Nat.le_of_ble_eq_true rfl)⟩, htl _ mw_261⟩ (tk_w.pick [] rfl) rfl hl.1 rfl (Nat.le_of_ble_eq_true rfl) dX12_end_6 ⟨(Nat.le_of_ble_eq_true rfl), (Nat.le_of_ble_eq_true rfl)⟩ (fun v1 H locs hpo hG hS hq9 => ?_)
  have hg_0 := hg_0.call hq9 tk_w.nil
  have hg_1 := hg_1.call hq9 tk_w.nil
  obtain ⟨hpo3, hpo4, hpo5, hpo6, hpo7, hpo8⟩ := hpo
  refine lv_if_ne (tgt := 14) hx hb dX12_end_9 (by decide) (fun c9 => ?_) (fun c9 => ?_)
  · have hc9 : ¬ (v1.toInt = 0) := fun h9 => c9 ((fi_eq rfl (show (0 : Int32).toInt = 0 by decide)).mpr h9)
    refine lv_aload_n hx hb dX12_end_14 rfl (lv_at hl 0 rfl) ?_
    refine lv_iload_n hx hb dX12_end_15 rfl (lv_at hl 1 rfl) ?_
    refine tk_put (ci := 12) (v := .int p1) (ty := .int) (C := RX12) (T := TX12) (N := 17) (sp := (0, 0, 400, 0)) hx hb htl inX12 tyX12 tyX12_ok nmX12 hown hK hG hS ht_a0 (by decide) tk_no rfl 13 (by decide) (htl _ mw_422) (fun _ h9 => h9) rfl (tyX12_ok 13 (by decide)) rfl rfl rfl (tk_V0 (by omega) (by omega)) (fun _ h => h) (tk_w.of ht_a0 (by decide) (List.mem_of_getElem? (i := 0) rfl) (Nat.le_refl _) (Nat.le_refl _)) dX12_end_16 (fun H locs hG hS hf10 hq9 hj9 => ?_)
    have hg_1 := hj9 15 _ (by decide) (by decide) hg_1
    refine lv_iload_n hx hb dX12_end_19 rfl (lv_at hl 1 rfl) ?_
    exact tk_iret (v := p1) hx hb hr rfl hlocks (show (0 ≤ p1.toInt → 0 ≤ g0.toInt + (-1) * p1.toInt → (-1) * p1.toInt + p1.toInt = 0) ∧ (p1.toInt ≤ (-1) → p1.toInt + 1 = 0) ∧ (0 ≤ (-1) * g0.toInt + p1.toInt + (-1) → p1.toInt + 1 = 0) ∧ tk_f D H a0 12 15 (.int g15) ∧ (∃ n9 : Int32, tk_f D H a0 12 13 (.int n9) ∧ (0 ≤ p1.toInt → 0 ≤ g0.toInt + (-1) * p1.toInt → n9.toInt + (-1) * p1.toInt = 0) ∧ (p1.toInt ≤ (-1) → (-1) * g0.toInt + n9.toInt = 0) ∧ (0 ≤ (-1) * g0.toInt + p1.toInt + (-1) → (-1) * g0.toInt + n9.toInt = 0)) from ⟨(fun _ _ => by omega), (fun _ => by omega), (fun _ => by omega), hg_1, ⟨p1, hf10, (fun _ _ => by omega), (fun _ => by omega), (fun _ => by omega)⟩⟩) hG hS dX12_end_20
  · have hc9 : v1.toInt = 0 := (fi_eq rfl (show (0 : Int32).toInt = 0 by decide)).mp c9
    refine lv_iconst (v := (-1)) hx hb dX12_end_12 (by decide) ?_
    have hk_m1 : ((-1) : Int32).toInt = (-1) := by decide
    exact tk_iret (v := (-1)) hx hb hr rfl hlocks (show (0 ≤ p1.toInt → 0 ≤ g0.toInt + (-1) * p1.toInt → (-1) * p1.toInt + ((-1) : Int32).toInt = 0) ∧ (p1.toInt ≤ (-1) → ((-1) : Int32).toInt + 1 = 0) ∧ (0 ≤ (-1) * g0.toInt + p1.toInt + (-1) → ((-1) : Int32).toInt + 1 = 0) ∧ tk_f D H a0 12 15 (.int g15) ∧ (∃ n9 : Int32, tk_f D H a0 12 13 (.int n9) ∧ (0 ≤ p1.toInt → 0 ≤ g0.toInt + (-1) * p1.toInt → n9.toInt + (-1) * p1.toInt = 0) ∧ (p1.toInt ≤ (-1) → (-1) * g0.toInt + n9.toInt = 0) ∧ (0 ≤ (-1) * g0.toInt + p1.toInt + (-1) → (-1) * g0.toInt + n9.toInt = 0)) from ⟨(fun _ _ => by omega), (fun _ => by omega), (fun _ => by omega), hg_1, ⟨g0, hg_0, (fun _ _ => by omega), (fun _ => by omega), (fun _ => by omega)⟩⟩) hG hS dX12_end_13
set_option maxHeartbeats 4000000 in
set_option maxRecDepth 100000 in
theorem k_X12_row_x (l : Launch) (D : va_G) (cy : Nat → ClassId) (ld : Nat → Nat) (t : tk_T) (a0 : Nat) (g0 : Int32) (g15 : Int32) (n0 n1 n2 n3 : Int32) (fh fs fk q1 q2 q3 : Nat → Int32) (ft : Nat → Int32) (ht_a0 : t a0 = (13, 0, 0)) (ht_ld20 : t (ld 20) = (3, 0, 0)) (ht_ld70 : t (ld 70) = (32, 8, 0)) (ht_ld80 : t (ld 80) = (33, 10, 0)) (ht_ld90 : t (ld 90) = (34, 10, 0)) (ht_ld100 : t (ld 100) = (35, 10, 0)) (ht_ld110 : t (ld 110) = (36, 10, 0)) (ht_ld120 : t (ld 120) = (37, 10, 0)) (ht_ld26 : t (ld 26) = (20, 400, 9)) (hp_0 : 0 ≤ n0.toInt) (hp_1 : n0.toInt ≤ 8) (hp_2 : 0 ≤ n1.toInt) (hp_3 : n1.toInt ≤ 10) (hp_4 : 0 ≤ n2.toInt) (hp_5 : n2.toInt ≤ 10) (hp_6 : 0 ≤ n3.toInt) (hp_7 : n3.toInt ≤ 8) (hp_8 : 0 ≤ g0.toInt) (hp_9 : g0.toInt ≤ 400) (hp_10 : (-2147483648) ≤ g15.toInt) (hp_11 : g15.toInt ≤ 2147483647) : Met l yX12_row (wl yX12_row cX12_row 4 (some .int)) ({ frames := 5, cells := 0, slots := 0, locals := 280 }) (tp D cy ld t [] [.ref a0] (fun H => tk_f D H a0 12 13 (.int g0) ∧ tk_f D H a0 12 15 (.int g15) ∧ jC D ld (ld 20) 0 n0 n1 n2 n3 fh fs fk q1 q2 q3 H ∧ tk_c H (ld 26) 400 ft)) (ti D cy ld t [] (fun r H => (g0.toInt ≤ 0 → r.toInt + 6 = 0) ∧ (1 ≤ g0.toInt → 0 ≤ r.toInt) ∧ (∃ n9 : Int32, tk_f D H a0 12 13 (.int n9) ∧ n9.toInt = 0) ∧ (g0.toInt ≤ 0 → jC D ld (ld 20) 0 n0 n1 n2 n3 fh fs fk q1 q2 q3 H ∧ tk_f D H a0 12 15 (.int g15)) ∧ (1 ≤ g0.toInt → ∃ (n9 c9 : Int32) (f9 f8 : Nat → Int32), jC D ld (ld 20) 0 n0 n9 n2 n3 fh f9 f8 q1 q2 q3 H ∧ tk_f D H a0 12 15 (.int c9) ∧ rw9 ft g0.toInt n1.toInt fs fk ((g0.toInt.toNat + 1) / 2) = (n9.toInt, r.toInt, c9.toInt, f9, f8)) ∧ tk_c H (ld 26) 400 ft) (tk_w t [(13, 0, 0), (33, 0, 0), (34, 0, 0), (3, 0, 0), (20, 0, 0)])) 0 0 (tk_w t [(13, 0, 0), (33, 0, 0), (34, 0, 0), (3, 0, 0), (20, 0, 0)]) := by
  refine tk_met (y := yX12_row) (cc := cX12_row) (maxL := 4) (ret := (some .int)) (av := [.ref a0]) _ _ (by decide) (Nat.le_of_ble_eq_true rfl) ?_
  intro p e s m args below meth c hx hb hr hml hts htl hown hlocks hK H locs hH hG hS hB hZ ls hl
  have hown : s.vm.findClass RX12 = some m.cls := hown
  have hl : lv_has ls 4 [(0, .ref a0)] := hl
  obtain ⟨hg_0, hg_1, ⟨hj0_0, hj0_1, hj0_2, hj0_3, hj0_4, hj0_5, hj0_6, hj0_7, hj0_8, hj0_9⟩, hj1_0⟩ := hB
  refine lv_aload_n hx hb dX12_row_0 rfl (lv_at hl 0 rfl) ?_
  refine tk_getk (ci := 12) (C := RX12) (T := TX12) (N := 17) (sp := (0, 0, 400, 0)) hx hb htl inX12 hown hK hG ht_a0 (by decide) tk_no rfl 13 (by decide) (htl _ mw_422) (fun _ h9 => h9) rfl hg_0 dX12_row_1 ?_
  refine lv_if_ne (tgt := 14) hx hb dX12_row_4 (by decide) (fun c9 => ?_) (fun c9 => ?_)
  · have hc1 : ¬ (g0.toInt = 0) := fun h9 => c9 ((fi_eq rfl (show (0 : Int32).toInt = 0 by decide)).mpr h9)
    refine lv_iconst (v := 0) hx hb dX12_row_14 (by decide) ?_
    refine lv_istore_n (lv' := [(1, .int 0), (0, .ref a0)]) hx hb dX12_row_15 rfl hl (by decide) rfl (fun ls hl => ?_)
    refine lv_iconst (v := 0) hx hb dX12_row_16 (by decide) ?_
    refine lv_istore_n (lv' := [(2, .int 0), (1, .int 0), (0, .ref a0)]) hx hb dX12_row_17 rfl hl (by decide) rfl (fun ls hl => ?_)
    refine lv_iconst (v := 0) hx hb dX12_row_18 (by decide) ?_
    refine lv_istore_n (lv' := [(3, .int 0), (2, .int 0), (1, .int 0), (0, .ref a0)]) hx hb dX12_row_19 rfl hl (by decide) rfl (fun ls hl => ?_)
    have hl473 : ∀ (N_l473 : Nat) (v53 : Int32) (v54 : Int32) (v55 : Int32) (v56 : Int32) (f57 : Nat → Int32) (f58 : Nat → Int32) (H : Heap) (locs : List Loc), v56.toInt ≤ 10 → 0 ≤ v53.toInt + (-1) * v54.toInt → 0 ≤ v53.toInt + (-1) * v55.toInt → 0 ≤ (-1) * v55.toInt + v56.toInt → 0 ≤ v55.toInt → 0 ≤ v54.toInt → 0 ≤ g0.toInt + (-1) * v53.toInt + 1 → v54.toInt ≤ 400 → (-1) * v53.toInt + 401 < (N_l473 : Int) → tk_G D cy ld t [] H → va_S (tk_w t [(13, 0, 0), (33, 0, 0), (34, 0, 0), (3, 0, 0), (20, 0, 0)]) s.heap H locs → tk_f D H a0 12 13 (.int g0) → tk_f D H a0 12 15 (.int g15) → tk_f D H (ld 20) 2 0 (.int n0) → tk_f D H (ld 20) 2 4 (.int v56) → tk_f D H (ld 20) 2 7 (.int n2) → tk_f D H (ld 20) 2 11 (.int n3) → tk_c H (ld 70) 8 fh → tk_c H (ld 80) 10 f57 → tk_c H (ld 90) 10 f58 → tk_c H (ld 100) 10 q1 → tk_c H (ld 110) 10 q2 → tk_c H (ld 120) 10 q3 → tk_c H (ld 26) 400 ft → (∃ k : Nat, v53.toInt = 2 * (k : Int) ∧ rw9 ft g0.toInt n1.toInt fs fk k = (v56.toInt, v55.toInt, v54.toInt, f57, f58)) → ∀ ls : Array Slot, lv_has ls 4 [(3, .int v53), (2, .int v54), (1, .int v55), (0, .ref a0)] → W p l e ({ frames := 5, cells := 0, slots := 0, locals := 280 }) s m args below meth c H locs 0 0 (MQ below (ti D cy ld t [] (fun r H => (g0.toInt ≤ 0 → r.toInt + 6 = 0) ∧ (1 ≤ g0.toInt → 0 ≤ r.toInt) ∧ (∃ n9 : Int32, tk_f D H a0 12 13 (.int n9) ∧ n9.toInt = 0) ∧ (g0.toInt ≤ 0 → jC D ld (ld 20) 0 n0 n1 n2 n3 fh fs fk q1 q2 q3 H ∧ tk_f D H a0 12 15 (.int g15)) ∧ (1 ≤ g0.toInt → ∃ (n9 c9 : Int32) (f9 f8 : Nat → Int32), jC D ld (ld 20) 0 n0 n9 n2 n3 fh f9 f8 q1 q2 q3 H ∧ tk_f D H a0 12 15 (.int c9) ∧ rw9 ft g0.toInt n1.toInt fs fk ((g0.toInt.toNat + 1) / 2) = (n9.toInt, r.toInt, c9.toInt, f9, f8)) ∧ tk_c H (ld 26) 400 ft) (tk_w t [(13, 0, 0), (33, 0, 0), (34, 0, 0), (3, 0, 0), (20, 0, 0)])) args s 0 0 (tk_w t [(13, 0, 0), (33, 0, 0), (34, 0, 0), (3, 0, 0), (20, 0, 0)])) (F0 m 20 ls []) := by
      intro N_l473
      induction N_l473 with
      | zero => intro v53 v54 v55 v56 f57 f58 H locs hq0_l473 hq1_l473 hq2_l473 hq3_l473 hq4_l473 hq5_l473 hq6_l473 hq7_l473 hm_l473 hG hS hg_0 hg_1 hj0_0 hj0_1 hj0_2 hj0_3 hj0_4 hj0_5 hj0_6 hj0_7 hj0_8 hj0_9 hj1_0 hrw ls hl; exfalso; omega
      | succ N_l473 ih_l473 =>
        intro v53 v54 v55 v56 f57 f58 H locs hq0_l473 hq1_l473 hq2_l473 hq3_l473 hq4_l473 hq5_l473 hq6_l473 hq7_l473 hm_l473 hG hS hg_0 hg_1 hj0_0 hj0_1 hj0_2 hj0_3 hj0_4 hj0_5 hj0_6 hj0_7 hj0_8 hj0_9 hj1_0 hrw ls hl
        refine lv_iload_n hx hb dX12_row_20 rfl (lv_at hl 0 rfl) ?_
        refine lv_aload_n hx hb dX12_row_21 rfl (lv_at hl 3 rfl) ?_
        refine tk_getk (ci := 12) (C := RX12) (T := TX12) (N := 17) (sp := (0, 0, 400, 0)) hx hb htl inX12 hown hK hG ht_a0 (by decide) tk_no rfl 13 (by decide) (htl _ mw_422) (fun _ h9 => h9) rfl hg_0 dX12_row_22 ?_
        refine lv_icmp_ge (tgt := 77) hx hb dX12_row_25 (by decide) (fun c9 => ?_) (fun c9 => ?_)
        · have hc474 : g0.toInt ≤ v53.toInt := (fi_le rfl rfl).mp c9
          refine lv_aload_n hx hb dX12_row_77 rfl (lv_at hl 3 rfl) ?_
          refine lv_iconst (v := 0) hx hb dX12_row_78 (by decide) ?_
          refine tk_put (ci := 12) (v := .int 0) (ty := .int) (C := RX12) (T := TX12) (N := 17) (sp := (0, 0, 400, 0)) hx hb htl inX12 tyX12 tyX12_ok nmX12 hown hK hG hS ht_a0 (by decide) tk_no rfl 13 (by decide) (htl _ mw_422) (fun _ h9 => h9) rfl (tyX12_ok 13 (by decide)) rfl rfl rfl (tk_V0 (by decide) (by decide)) (fun _ h => h) (tk_w.of ht_a0 (by decide) (List.mem_of_getElem? (i := 0) rfl) (Nat.le_refl _) (Nat.le_refl _)) dX12_row_79 (fun H locs hG hS hf475 hq9 hj9 => ?_)
          have hg_1 := hj9 15 _ (by decide) (by decide) hg_1
          have hj0_0 := hj0_0.kept (hq9 _ (tk_ne ht_ld20 ht_a0 (Or.inl (by decide))))
          have hj0_1 := hj0_1.kept (hq9 _ (tk_ne ht_ld20 ht_a0 (Or.inl (by decide))))
          have hj0_2 := hj0_2.kept (hq9 _ (tk_ne ht_ld20 ht_a0 (Or.inl (by decide))))
          have hj0_3 := hj0_3.kept (hq9 _ (tk_ne ht_ld20 ht_a0 (Or.inl (by decide))))
          have hj0_4 := hj0_4.kept (hq9 _ (tk_ne ht_ld70 ht_a0 (Or.inl (by decide))))
          have hj0_5 := hj0_5.kept (hq9 _ (tk_ne ht_ld80 ht_a0 (Or.inl (by decide))))
          have hj0_6 := hj0_6.kept (hq9 _ (tk_ne ht_ld90 ht_a0 (Or.inl (by decide))))
          have hj0_7 := hj0_7.kept (hq9 _ (tk_ne ht_ld100 ht_a0 (Or.inl (by decide))))
          have hj0_8 := hj0_8.kept (hq9 _ (tk_ne ht_ld110 ht_a0 (Or.inl (by decide))))
          have hj0_9 := hj0_9.kept (hq9 _ (tk_ne ht_ld120 ht_a0 (Or.inl (by decide))))
          have hj1_0 := hj1_0.kept (hq9 _ (tk_ne ht_ld26 ht_a0 (Or.inl (by decide))))
          refine lv_aload_n hx hb dX12_row_82 rfl (lv_at hl 3 rfl) ?_
          refine lv_iload_n hx hb dX12_row_83 rfl (lv_at hl 1 rfl) ?_
          refine tk_put (ci := 12) (v := .int v54) (ty := .int) (C := RX12) (T := TX12) (N := 17) (sp := (0, (-2147483648), 2147483647, 0)) hx hb htl inX12 tyX12 tyX12_ok nmX12 hown hK hG hS ht_a0 (by decide) tk_no rfl 15 (by decide) (htl _ mw_448) (fun _ h9 => h9) rfl (tyX12_ok 15 (by decide)) rfl rfl rfl (tk_V0 (tk_rng _).1 (tk_rng _).2) (fun _ h => h) (tk_w.of ht_a0 (by decide) (List.mem_of_getElem? (i := 0) rfl) (Nat.le_refl _) (Nat.le_refl _)) dX12_row_84 (fun H locs hG hS hf477 hq9 hj9 => ?_)
          have hj0_0 := hj0_0.kept (hq9 _ (tk_ne ht_ld20 ht_a0 (Or.inl (by decide))))
          have hj0_1 := hj0_1.kept (hq9 _ (tk_ne ht_ld20 ht_a0 (Or.inl (by decide))))
          have hj0_2 := hj0_2.kept (hq9 _ (tk_ne ht_ld20 ht_a0 (Or.inl (by decide))))
          have hj0_3 := hj0_3.kept (hq9 _ (tk_ne ht_ld20 ht_a0 (Or.inl (by decide))))
          have hj0_4 := hj0_4.kept (hq9 _ (tk_ne ht_ld70 ht_a0 (Or.inl (by decide))))
          have hj0_5 := hj0_5.kept (hq9 _ (tk_ne ht_ld80 ht_a0 (Or.inl (by decide))))
          have hj0_6 := hj0_6.kept (hq9 _ (tk_ne ht_ld90 ht_a0 (Or.inl (by decide))))
          have hj0_7 := hj0_7.kept (hq9 _ (tk_ne ht_ld100 ht_a0 (Or.inl (by decide))))
          have hj0_8 := hj0_8.kept (hq9 _ (tk_ne ht_ld110 ht_a0 (Or.inl (by decide))))
          have hj0_9 := hj0_9.kept (hq9 _ (tk_ne ht_ld120 ht_a0 (Or.inl (by decide))))
          have hj1_0 := hj1_0.kept (hq9 _ (tk_ne ht_ld26 ht_a0 (Or.inl (by decide))))
          have hf475 := hj9 13 _ (by decide) (by decide) hf475
          refine lv_aload_n hx hb dX12_row_87 rfl (lv_at hl 3 rfl) ?_
          refine lv_iload_n hx hb dX12_row_88 rfl (lv_at hl 2 rfl) ?_
          have hk_0 : (0 : Int32).toInt = 0 := by decide
          refine tk_Vi (As := [.int v55]) (rest := []) (ci := 12) ⟨hx, hb, hml, hown, hts⟩ hK hG hZ hS (k_X12_accept_x l D cy ld t a0 v55 0 v54 ht_a0 (by omega) (by omega) (by omega) (by omega)) ⟨hf475, hf477⟩ ⟨callB_of 1 hts (wl_in mw_281) rfl rfl rfl (htl _ mw_2) (htl _ mw_278) hd_yX12_accept ⟨(Nat.le_of_ble_eq_true rfl), (Nat.le_of_ble_eq_true rfl)⟩, htl _ mw_279, htl _ mw_280⟩ ht_a0 (by decide) tk_no rfl (tk_w.pick [0] rfl) rfl hl.1 rfl (Nat.le_of_ble_eq_true rfl) dX12_row_89 ⟨(Nat.le_of_ble_eq_true rfl), (Nat.le_of_ble_eq_true rfl)⟩ (fun v479 H locs hpo hG hS hq9 => ?_)
          have hj0_0 := hj0_0.call hq9 (tk_w.no ht_ld20 (by decide))
          have hj0_1 := hj0_1.call hq9 (tk_w.no ht_ld20 (by decide))
          have hj0_2 := hj0_2.call hq9 (tk_w.no ht_ld20 (by decide))
          have hj0_3 := hj0_3.call hq9 (tk_w.no ht_ld20 (by decide))
          have hj0_4 := hj0_4.call hq9 (tk_w.no ht_ld70 (by decide))
          have hj0_5 := hj0_5.call hq9 (tk_w.no ht_ld80 (by decide))
          have hj0_6 := hj0_6.call hq9 (tk_w.no ht_ld90 (by decide))
          have hj0_7 := hj0_7.call hq9 (tk_w.no ht_ld100 (by decide))
          have hj0_8 := hj0_8.call hq9 (tk_w.no ht_ld110 (by decide))
          have hj0_9 := hj0_9.call hq9 (tk_w.no ht_ld120 (by decide))
          have hj1_0 := hj1_0.call hq9 (tk_w.no ht_ld26 (by decide))
          obtain ⟨hpo481, hf482, hf483⟩ := hpo
          have hk_0 : (0 : Int32).toInt = 0 := by decide
          exact tk_iret (v := v479) hx hb hr rfl hlocks (show (g0.toInt ≤ 0 → v479.toInt + 6 = 0) ∧ (1 ≤ g0.toInt → 0 ≤ v479.toInt) ∧ (∃ n9 : Int32, tk_f D H a0 12 13 (.int n9) ∧ n9.toInt = 0) ∧ (g0.toInt ≤ 0 → jC D ld (ld 20) 0 n0 n1 n2 n3 fh fs fk q1 q2 q3 H ∧ tk_f D H a0 12 15 (.int g15)) ∧ (1 ≤ g0.toInt → ∃ (n9 c9 : Int32) (f9 f8 : Nat → Int32), jC D ld (ld 20) 0 n0 n9 n2 n3 fh f9 f8 q1 q2 q3 H ∧ tk_f D H a0 12 15 (.int c9) ∧ rw9 ft g0.toInt n1.toInt fs fk ((g0.toInt.toNat + 1) / 2) = (n9.toInt, v479.toInt, c9.toInt, f9, f8)) ∧ tk_c H (ld 26) 400 ft from ⟨(fun _ => by omega), (fun _ => by omega), ⟨0, hf482, (by omega)⟩, (fun h9 => (show False by omega).elim), (fun _ => ⟨v56, v54, f57, f58, ⟨hj0_0, hj0_1, hj0_2, hj0_3, hj0_4, hj0_5, hj0_6, hj0_7, hj0_8, hj0_9⟩, hf483, by obtain ⟨k9, hk9, hw9⟩ := hrw; rw [show (g0.toInt.toNat + 1) / 2 = k9 by omega, hw9, show v479.toInt = v55.toInt by omega]⟩), hj1_0⟩) hG hS dX12_row_92
        · have hc474 : ¬ (g0.toInt ≤ v53.toInt) := fun h9 => c9 ((fi_le rfl rfl).mpr h9)
          refine lv_iload_n hx hb dX12_row_28 rfl (lv_at hl 0 rfl) ?_
          refine lv_iconst (v := 1) hx hb dX12_row_29 (by decide) ?_
          refine lv_iadd hx hb dX12_row_30 ?_
          refine tk_add rfl (show (1 : Int32).toInt = 1 by decide) (by omega) (by omega) (fun v484 h_v484 => ?_)
          refine lv_aload_n hx hb dX12_row_31 rfl (lv_at hl 3 rfl) ?_
          refine tk_getk (ci := 12) (C := RX12) (T := TX12) (N := 17) (sp := (0, 0, 400, 0)) hx hb htl inX12 hown hK hG ht_a0 (by decide) tk_no rfl 13 (by decide) (htl _ mw_422) (fun _ h9 => h9) rfl hg_0 dX12_row_32 ?_
          refine lv_icmp_ge (tgt := 68) hx hb dX12_row_35 (by decide) (fun c9 => ?_) (fun c9 => ?_)
          · have hc485 : g0.toInt ≤ v484.toInt := (fi_le rfl rfl).mp c9
            obtain ⟨v486, h_v486, e_v486⟩ := tk_inc v54 1 (by decide) (by omega) (by omega)
            refine lv_iinc (v := v486) (lv' := [(2, .int v486), (3, .int v53), (1, .int v55), (0, .ref a0)]) hx hb dX12_row_68 hl (k := 1) rfl e_v486 (by decide) rfl (fun ls hl => ?_)
            obtain ⟨v487, h_v487, e_v487⟩ := tk_inc v53 2 (by decide) (by omega) (by omega)
            refine lv_iinc (v := v487) (lv' := [(3, .int v487), (2, .int v486), (1, .int v55), (0, .ref a0)]) hx hb dX12_row_71 hl (k := 1) rfl e_v487 (by decide) rfl (fun ls hl => ?_)
            refine lv_goto (tgt := 20) hx hb dX12_row_74 (by decide) ?_
            exact ih_l473 v487 v486 v55 v56 f57 f58 _ _ (by omega) (by omega) (by omega) (by omega) (by omega) (by omega) (by omega) (by omega) (by omega) hG hS hg_0 hg_1 hj0_0 hj0_1 hj0_2 hj0_3 hj0_4 hj0_5 hj0_6 hj0_7 hj0_8 hj0_9 hj1_0 (by obtain ⟨k9, hk9, hw9⟩ := hrw; exact ⟨k9 + 1, by omega, rw9_no hw9 hk9 (by omega) (by omega) (by omega) (by omega)⟩) _ (lv_sub hl [0, 1, 2, 3] rfl)
          · have hc485 : ¬ (g0.toInt ≤ v484.toInt) := fun h9 => c9 ((fi_le rfl rfl).mpr h9)
            refine lv_aload_n hx hb dX12_row_38 rfl (lv_at hl 3 rfl) ?_
            refine tk_get (ci := 12) (C := RX12) (T := TX12) (N := 17) (sp := (8, 20, 3, 0)) hx hb htl inX12 hown hK hG ht_a0 (by decide) tk_no rfl 0 (by decide) (htl _ mw_15) (fun _ h9 => h9) rfl dX12_row_39 (fun v9 hf488 hV9 => ?_)
            obtain ⟨rfl, ht_ld20⟩ := hV9
            have ht_ld20 : t (ld 20) = (3, 0, 0) := ht_ld20
            refine fx_top (v := .ref (ld 20)) rfl ?_
            refine lv_aload_n hx hb dX12_row_42 rfl (lv_at hl 3 rfl) ?_
            refine tk_get (ci := 12) (C := RX12) (T := TX12) (N := 17) (sp := (10, 26, 20, 6409)) hx hb htl inX12 hown hK hG ht_a0 (by decide) tk_no rfl 11 (by decide) (htl _ mw_33) (fun _ h9 => h9) rfl dX12_row_43 (fun v9 hf489 hV9 => ?_)
            obtain ⟨rfl, ht_ld26⟩ := hV9
            have ht_ld26 : t (ld 26) = (20, 400, 9) := ht_ld26
            refine fx_top (v := .ref (ld 26)) rfl ?_
            refine lv_iload_n hx hb dX12_row_46 rfl (lv_at hl 0 rfl) ?_
            refine tk_iald hx hb hK hG ht_ld26 (by decide) (fun _ h => h) tk_no rfl (by omega) (by omega) dX12_row_47 (fun v490 _ hz9 => ?_)
            have hr_v490 := tk_rng v490
            have ev_v490 : v490 = ft v53.toNatClampNeg := hj1_0.at hz9 (by have h9 : v53.toNatClampNeg = v53.toInt.toNat := rfl; omega)
            refine lv_aload_n hx hb dX12_row_48 rfl (lv_at hl 3 rfl) ?_
            refine tk_get (ci := 12) (C := RX12) (T := TX12) (N := 17) (sp := (10, 26, 20, 6409)) hx hb htl inX12 hown hK hG ht_a0 (by decide) tk_no rfl 11 (by decide) (htl _ mw_33) (fun _ h9 => h9) rfl dX12_row_49 (fun v9 hf491 hV9 => ?_)
            obtain ⟨rfl, ht_ld26⟩ := hV9
            have ht_ld26 : t (ld 26) = (20, 400, 9) := ht_ld26
            refine fx_top (v := .ref (ld 26)) rfl ?_
            refine lv_iload_n hx hb dX12_row_52 rfl (lv_at hl 0 rfl) ?_
            refine lv_iconst (v := 1) hx hb dX12_row_53 (by decide) ?_
            refine lv_iadd hx hb dX12_row_54 ?_
            refine tk_add rfl (show (1 : Int32).toInt = 1 by decide) (by omega) (by omega) (fun v492 h_v492 => ?_)
            refine tk_iald hx hb hK hG ht_ld26 (by decide) (fun _ h => h) tk_no rfl (by omega) (by omega) dX12_row_55 (fun v493 _ hz9 => ?_)
            have hr_v493 := tk_rng v493
            have ev_v493 : v493 = ft v492.toNatClampNeg := hj1_0.at hz9 (by have h9 : v492.toNatClampNeg = v492.toInt.toNat := rfl; omega)
            refine tk_Vi (As := [.int v490, .int v493]) (rest := []) (ci := 2) ⟨hx, hb, hml, hown, hts⟩ hK hG hZ hS (k_X2_addVerse_x l D cy ld t (ld 20) v490 v493 n0 v56 n2 n3 fh f57 f58 q1 q2 q3 ht_ld20 ht_ld70 ht_ld80 ht_ld90 ht_ld100 ht_ld110 ht_ld120 (by omega) (by omega) (by omega) (by omega) (by omega) (by omega) (by omega) (by omega)) ⟨hj0_0, hj0_1, hj0_2, hj0_3, hj0_4, hj0_5, hj0_6, hj0_7, hj0_8, hj0_9⟩ ⟨callB_of 2 hts (wl_in mw_332) rfl rfl rfl (htl _ mw_14) (htl _ mw_329) hd_yX2_addVerse ⟨(Nat.le_of_ble_eq_true rfl), (Nat.le_of_ble_eq_true rfl)⟩, htl _ mw_330, htl _ mw_331⟩ ht_ld20 (by decide) tk_no rfl (tk_w.pick [1, 2, 3] rfl) rfl hl.1 rfl (Nat.le_of_ble_eq_true rfl) dX12_row_56 ⟨(Nat.le_of_ble_eq_true rfl), (Nat.le_of_ble_eq_true rfl)⟩ (fun v494 H locs hpo hG hS hq9 => ?_)
            have hg_0 := hg_0.call hq9 (tk_w.no ht_a0 (by decide))
            have hg_1 := hg_1.call hq9 (tk_w.no ht_a0 (by decide))
            have hj0_4 := hj0_4.call hq9 (tk_w.no ht_ld70 (by decide))
            have hj0_7 := hj0_7.call hq9 (tk_w.no ht_ld100 (by decide))
            have hj0_8 := hj0_8.call hq9 (tk_w.no ht_ld110 (by decide))
            have hj0_9 := hj0_9.call hq9 (tk_w.no ht_ld120 (by decide))
            have hj1_0 := hj1_0.call hq9 (tk_w.no ht_ld26 (by decide))
            obtain ⟨hpo496, hpo497, hpo498, hpo499, hpo500, hpo501, hpo502, ⟨v505, ⟨hj503, hj504, hj506, hj507, hj508, hj509, hj510, hj511, hj512, hj513⟩, hpo514, hpo515⟩⟩ := hpo
            have hq_v505 := tk_rng v505
            refine lv_if_lt (tgt := 68) hx hb dX12_row_59 (by decide) (fun c9 => ?_) (fun c9 => ?_)
            · have hc516 : v494.toInt < 0 := (fi_lt rfl (show (0 : Int32).toInt = 0 by decide)).mp c9
              obtain ⟨v517, h_v517, e_v517⟩ := tk_inc v54 1 (by decide) (by omega) (by omega)
              refine lv_iinc (v := v517) (lv' := [(2, .int v517), (3, .int v53), (1, .int v55), (0, .ref a0)]) hx hb dX12_row_68 hl (k := 1) rfl e_v517 (by decide) rfl (fun ls hl => ?_)
              obtain ⟨v518, h_v518, e_v518⟩ := tk_inc v53 2 (by decide) (by omega) (by omega)
              refine lv_iinc (v := v518) (lv' := [(3, .int v518), (2, .int v517), (1, .int v55), (0, .ref a0)]) hx hb dX12_row_71 hl (k := 1) rfl e_v518 (by decide) rfl (fun ls hl => ?_)
              refine lv_goto (tgt := 20) hx hb dX12_row_74 (by decide) ?_
              exact ih_l473 v518 v517 v55 v505 (cif v494 (upd f57 v56.toInt.toNat v490) f57) (cif v494 (upd f58 v56.toInt.toNat v493) f58) _ _ (by omega) (by omega) (by omega) (by omega) (by omega) (by omega) (by omega) (by omega) (by omega) hG hS hg_0 hg_1 hj503 hj504 hj506 hj507 hj508 hj509 hj510 hj511 hj512 hj513 hj1_0 (by obtain ⟨k9, hk9, hw9⟩ := hrw; exact ⟨k9 + 1, by omega, rw9_call hw9 hk9 (by omega) (ev_v490.trans (congrArg ft (by show v53.toInt.toNat = _; omega))) (ev_v493.trans (congrArg ft (by show v492.toInt.toNat = _; omega))) rfl (fun h9 => by omega) (fun h9 => by omega) (fun h9 => by omega) (fun h9 => by omega)⟩) _ (lv_sub hl [0, 1, 2, 3] rfl)
            · have hc516 : ¬ (v494.toInt < 0) := fun h9 => c9 ((fi_lt rfl (show (0 : Int32).toInt = 0 by decide)).mpr h9)
              obtain ⟨v519, h_v519, e_v519⟩ := tk_inc v55 1 (by decide) (by omega) (by omega)
              refine lv_iinc (v := v519) (lv' := [(1, .int v519), (3, .int v53), (2, .int v54), (0, .ref a0)]) hx hb dX12_row_62 hl (k := 2) rfl e_v519 (by decide) rfl (fun ls hl => ?_)
              refine lv_goto (tgt := 71) hx hb dX12_row_65 (by decide) ?_
              obtain ⟨v520, h_v520, e_v520⟩ := tk_inc v53 2 (by decide) (by omega) (by omega)
              refine lv_iinc (v := v520) (lv' := [(3, .int v520), (1, .int v519), (2, .int v54), (0, .ref a0)]) hx hb dX12_row_71 hl (k := 1) rfl e_v520 (by decide) rfl (fun ls hl => ?_)
              refine lv_goto (tgt := 20) hx hb dX12_row_74 (by decide) ?_
              exact ih_l473 v520 v54 v519 v505 (cif v494 (upd f57 v56.toInt.toNat v490) f57) (cif v494 (upd f58 v56.toInt.toNat v493) f58) _ _ (by omega) (by omega) (by omega) (by omega) (by omega) (by omega) (by omega) (by omega) (by omega) hG hS hg_0 hg_1 hj503 hj504 hj506 hj507 hj508 hj509 hj510 hj511 hj512 hj513 hj1_0 (by obtain ⟨k9, hk9, hw9⟩ := hrw; exact ⟨k9 + 1, by omega, rw9_call hw9 hk9 (by omega) (ev_v490.trans (congrArg ft (by show v53.toInt.toNat = _; omega))) (ev_v493.trans (congrArg ft (by show v492.toInt.toNat = _; omega))) rfl (fun h9 => by omega) (fun h9 => by omega) (fun h9 => by omega) (fun h9 => by omega)⟩) _ (lv_sub hl [0, 2, 1, 3] rfl)
    have hk_0 : (0 : Int32).toInt = 0 := by decide
    have hk_0 : (0 : Int32).toInt = 0 := by decide
    have hk_0 : (0 : Int32).toInt = 0 := by decide
    exact hl473 402 0 0 0 n1 fs fk _ _ (by omega) (by omega) (by omega) (by omega) (by omega) (by omega) (by omega) (by omega) (by omega) hG hS hg_0 hg_1 hj0_0 hj0_1 hj0_2 hj0_3 hj0_4 hj0_5 hj0_6 hj0_7 hj0_8 hj0_9 hj1_0 ⟨0, by decide, by rw [show (0 : Int32).toInt = 0 by decide]; rfl⟩ _ (lv_sub hl [0, 1, 2, 3] rfl)
  · have hc1 : g0.toInt = 0 := (fi_eq rfl (show (0 : Int32).toInt = 0 by decide)).mp c9
    refine lv_aload_n hx hb dX12_row_7 rfl (lv_at hl 0 rfl) ?_
    refine lv_bipush (v := (-6)) hx hb dX12_row_8 (by decide) ?_
    have hk_m6 : ((-6) : Int32).toInt = (-6) := by decide
    refine tk_Vi (As := [.int (-6)]) (rest := []) (ci := 12) ⟨hx, hb, hml, hown, hts⟩ hK hG hZ hS (k_X12_refuse_x l D cy ld t a0 (-6) g0 g15 ht_a0 (by omega) (by omega) (by omega) (by omega)) ⟨hg_0, hg_1⟩ ⟨callB_of 1 hts (wl_in mw_275) rfl rfl rfl (htl _ mw_2) (htl _ mw_272) hd_yX12_refuse ⟨(Nat.le_of_ble_eq_true rfl), (Nat.le_of_ble_eq_true rfl)⟩, htl _ mw_273, htl _ mw_274⟩ ht_a0 (by decide) tk_no rfl (tk_w.pick [0, 4] rfl) rfl hl.1 rfl (Nat.le_of_ble_eq_true rfl) dX12_row_10 ⟨(Nat.le_of_ble_eq_true rfl), (Nat.le_of_ble_eq_true rfl)⟩ (fun v521 H locs hpo hG hS hq9 => ?_)
    have hj0_0 := hj0_0.call hq9 (tk_w.no ht_ld20 (by decide))
    have hj0_1 := hj0_1.call hq9 (tk_w.no ht_ld20 (by decide))
    have hj0_2 := hj0_2.call hq9 (tk_w.no ht_ld20 (by decide))
    have hj0_3 := hj0_3.call hq9 (tk_w.no ht_ld20 (by decide))
    have hj0_4 := hj0_4.call hq9 (tk_w.no ht_ld70 (by decide))
    have hj0_5 := hj0_5.call hq9 (tk_w.no ht_ld80 (by decide))
    have hj0_6 := hj0_6.call hq9 (tk_w.no ht_ld90 (by decide))
    have hj0_7 := hj0_7.call hq9 (tk_w.no ht_ld100 (by decide))
    have hj0_8 := hj0_8.call hq9 (tk_w.no ht_ld110 (by decide))
    have hj0_9 := hj0_9.call hq9 (tk_w.no ht_ld120 (by decide))
    have hj1_0 := hj1_0.call hq9 (tk_w.no ht_ld26 (by decide))
    obtain ⟨hpo523, hf524, hf525⟩ := hpo
    exact tk_iret (v := v521) hx hb hr rfl hlocks (show (g0.toInt ≤ 0 → v521.toInt + 6 = 0) ∧ (1 ≤ g0.toInt → 0 ≤ v521.toInt) ∧ (∃ n9 : Int32, tk_f D H a0 12 13 (.int n9) ∧ n9.toInt = 0) ∧ (g0.toInt ≤ 0 → jC D ld (ld 20) 0 n0 n1 n2 n3 fh fs fk q1 q2 q3 H ∧ tk_f D H a0 12 15 (.int g15)) ∧ (1 ≤ g0.toInt → ∃ (n9 c9 : Int32) (f9 f8 : Nat → Int32), jC D ld (ld 20) 0 n0 n9 n2 n3 fh f9 f8 q1 q2 q3 H ∧ tk_f D H a0 12 15 (.int c9) ∧ rw9 ft g0.toInt n1.toInt fs fk ((g0.toInt.toNat + 1) / 2) = (n9.toInt, v521.toInt, c9.toInt, f9, f8)) ∧ tk_c H (ld 26) 400 ft from ⟨(fun _ => by omega), (fun _ => by omega), ⟨g0, hf524, (by omega)⟩, (fun _ => ⟨⟨hj0_0, hj0_1, hj0_2, hj0_3, hj0_4, hj0_5, hj0_6, hj0_7, hj0_8, hj0_9⟩, hf525⟩), (fun h9 => (show False by omega).elim), hj1_0⟩) hG hS dX12_row_13
set_option maxHeartbeats 4000000 in
set_option maxRecDepth 100000 in
theorem k_X12_coughs_x (l : Launch) (D : va_G) (cy : Nat → ClassId) (ld : Nat → Nat) (t : tk_T) (a0 : Nat) (g15 : Int32) (ht_a0 : t a0 = (13, 0, 0)) (hp_0 : (-2147483648) ≤ g15.toInt) (hp_1 : g15.toInt ≤ 2147483647) : Met l yX12_coughs (wl yX12_coughs cX12_coughs 1 (some .int)) ({ frames := 3, cells := 0, slots := 0, locals := 140 }) (tp D cy ld t [] [.ref a0] (fun H => tk_f D H a0 12 15 (.int g15))) (ti D cy ld t [] (fun r H => (-1) * g15.toInt + r.toInt = 0) (tk_w t [])) 0 0 (tk_w t []) := by
  refine tk_met (y := yX12_coughs) (cc := cX12_coughs) (maxL := 1) (ret := (some .int)) (av := [.ref a0]) _ _ (by decide) (Nat.le_of_ble_eq_true rfl) ?_
  intro p e s m args below meth c hx hb hr hml hts htl hown hlocks hK H locs hH hG hS hB hZ ls hl
  have hown : s.vm.findClass RX12 = some m.cls := hown
  have hl : lv_has ls 1 [(0, .ref a0)] := hl
  have hg_0 := hB
  refine lv_aload_n hx hb dX12_coughs_0 rfl (lv_at hl 0 rfl) ?_
  refine tk_getk (ci := 12) (C := RX12) (T := TX12) (N := 17) (sp := (0, (-2147483648), 2147483647, 0)) hx hb htl inX12 hown hK hG ht_a0 (by decide) tk_no rfl 15 (by decide) (htl _ mw_448) (fun _ h9 => h9) rfl hg_0 dX12_coughs_1 ?_
  exact tk_iret (v := g15) hx hb hr rfl hlocks (show (-1) * g15.toInt + g15.toInt = 0 from (by omega)) hG hS dX12_coughs_4
set_option maxHeartbeats 4000000 in
set_option maxRecDepth 100000 in
theorem k_X12_orders_x (l : Launch) (D : va_G) (cy : Nat → ClassId) (ld : Nat → Nat) (t : tk_T) (a0 : Nat) (g0 : Int32) (g15 : Int32) (ht_a0 : t a0 = (13, 0, 0)) (hp_0 : 0 ≤ g0.toInt) (hp_1 : g0.toInt ≤ 400) (hp_2 : (-2147483648) ≤ g15.toInt) (hp_3 : g15.toInt ≤ 2147483647) : Met l yX12_orders (wl yX12_orders cX12_orders 2 (some .int)) ({ frames := 41, cells := 0, slots := 0, locals := 2800 }) (tp D cy ld t [] [.ref a0] (fun H => tk_f D H a0 12 13 (.int g0) ∧ tk_f D H a0 12 15 (.int g15))) (ti D cy ld t [] (fun r H => tk_f D H a0 12 13 (.int 0) ∧ tk_f D H a0 12 15 (.int g15)) (tk_w t [(13, 0, 0), (5, 0, 0), (8, 12, 12), (7, 0, 0), (20, 0, 0), (23, 0, 0), (20, 2, 2), (10, 2, 2), (2, 0, 0), (20, 3, 3), (10, 3, 3), (20, 1, 1), (10, 1, 1), (10, 0, 0), (12, 0, 0), (9, 0, 0)])) 0 0 (tk_w t [(13, 0, 0), (5, 0, 0), (8, 12, 12), (7, 0, 0), (20, 0, 0), (23, 0, 0), (20, 2, 2), (10, 2, 2), (2, 0, 0), (20, 3, 3), (10, 3, 3), (20, 1, 1), (10, 1, 1), (10, 0, 0), (12, 0, 0), (9, 0, 0)]) := by
  refine tk_met (y := yX12_orders) (cc := cX12_orders) (maxL := 2) (ret := (some .int)) (av := [.ref a0]) _ _ (by decide) (Nat.le_of_ble_eq_true rfl) ?_
  intro p e s m args below meth c hx hb hr hml hts htl hown hlocks hK H locs hH hG hS hB hZ ls hl
  have hown : s.vm.findClass RX12 = some m.cls := hown
  have hl : lv_has ls 2 [(0, .ref a0)] := hl
  obtain ⟨hg_0, hg_1⟩ := hB
  refine lv_aload_n hx hb dX12_orders_0 rfl (lv_at hl 0 rfl) ?_
  refine tk_getk (ci := 12) (C := RX12) (T := TX12) (N := 17) (sp := (0, 0, 400, 0)) hx hb htl inX12 hown hK hG ht_a0 (by decide) tk_no rfl 13 (by decide) (htl _ mw_422) (fun _ h9 => h9) rfl hg_0 dX12_orders_1 ?_
  refine lv_istore_n (lv' := [(1, .int g0), (0, .ref a0)]) hx hb dX12_orders_4 rfl hl (by decide) rfl (fun ls hl => ?_)
  refine lv_aload_n hx hb dX12_orders_5 rfl (lv_at hl 1 rfl) ?_
  refine lv_iconst (v := 0) hx hb dX12_orders_6 (by decide) ?_
  refine tk_put (ci := 12) (v := .int 0) (ty := .int) (C := RX12) (T := TX12) (N := 17) (sp := (0, 0, 400, 0)) hx hb htl inX12 tyX12 tyX12_ok nmX12 hown hK hG hS ht_a0 (by decide) tk_no rfl 13 (by decide) (htl _ mw_422) (fun _ h9 => h9) rfl (tyX12_ok 13 (by decide)) rfl rfl rfl (tk_V0 (by decide) (by decide)) (fun _ h => h) (tk_w.of ht_a0 (by decide) (List.mem_of_getElem? (i := 0) rfl) (Nat.le_refl _) (Nat.le_refl _)) dX12_orders_7 (fun H locs hG hS hf1 hq9 hj9 => ?_)
  have hg_1 := hj9 15 _ (by decide) (by decide) hg_1
  refine lv_aload_n hx hb dX12_orders_10 rfl (lv_at hl 1 rfl) ?_
  refine tk_get (ci := 12) (C := RX12) (T := TX12) (N := 17) (sp := (6, 5, 0, 0)) hx hb htl inX12 hown hK hG ht_a0 (by decide) tk_no rfl 5 (by decide) (htl _ mw_31) (fun _ h9 => h9) rfl dX12_orders_11 (fun v9 hf3 hV9 => ?_)
  obtain ⟨b4, rfl, ht_b4⟩ := hV9
  have ht_b4 : t b4 = (5, 0, 0) := ht_b4
  refine lv_iconst (v := (-1)) hx hb dX12_orders_14 (by decide) ?_
  refine tk_put (ci := 4) (v := .int (-1)) (ty := .int) (C := RX4) (T := TX4) (N := 6) (sp := (0, (-2147483648), 2147483647, 0)) hx hb htl inX4 tyX4 tyX4_ok nmX4 hown hK hG hS ht_b4 (by decide) tk_no rfl 0 (by decide) (htl _ mw_800) (fun _ h9 => h9) rfl (tyX4_ok 0 (by decide)) rfl rfl rfl (tk_V0 (tk_rng _).1 (tk_rng _).2) (fun _ h => h) (tk_w.of ht_b4 (by decide) (List.mem_of_getElem? (i := 1) rfl) (Nat.le_refl _) (Nat.le_refl _)) dX12_orders_15 (fun H locs hG hS hf5 hq9 hj9 => ?_)
  have hg_1 := hg_1.kept (hq9 _ (tk_ne ht_a0 ht_b4 (Or.inl (by decide))))
  have hf1 := hf1.kept (hq9 _ (tk_ne ht_a0 ht_b4 (Or.inl (by decide))))
  refine lv_aload_n hx hb dX12_orders_18 rfl (lv_at hl 1 rfl) ?_
  refine lv_aload_n hx hb dX12_orders_19 rfl (lv_at hl 1 rfl) ?_
  refine tk_get (ci := 12) (C := RX12) (T := TX12) (N := 17) (sp := (6, 7, 0, 0)) hx hb htl inX12 hown hK hG ht_a0 (by decide) tk_no rfl 6 (by decide) (htl _ mw_37) (fun _ h9 => h9) rfl dX12_orders_20 (fun v9 hf7 hV9 => ?_)
  obtain ⟨b8, rfl, ht_b8⟩ := hV9
  have ht_b8 : t b8 = (7, 0, 0) := ht_b8
  refine lv_iload_n hx hb dX12_orders_23 rfl (lv_at hl 0 rfl) ?_
  refine lv_iconst (v := 0) hx hb dX12_orders_24 (by decide) ?_
  have hk_0 : (0 : Int32).toInt = 0 := by decide
  refine tk_Vi (As := [.int g0, .int 0]) (rest := [.ref a0]) (ci := 6) ⟨hx, hb, hml, hown, hts⟩ hK hG hZ hS (k_X6_read l D cy ld t b8 g0 0 ht_b8 (by omega) (by omega) (by omega) (by omega)) trivial ⟨callB_of 2 hts (wl_in mw_471) rfl rfl rfl (htl _ mw_36) (htl _ mw_468) hd_yX6_read ⟨(Nat.le_of_ble_eq_true rfl), (Nat.le_of_ble_eq_true rfl)⟩, htl _ mw_469, htl _ mw_470⟩ ht_b8 (by decide) tk_no rfl (tk_w.pick [2, 3, 4, 5] rfl) rfl hl.1 rfl (Nat.le_of_ble_eq_true rfl) dX12_orders_25 ⟨(Nat.le_of_ble_eq_true rfl), (Nat.le_of_ble_eq_true rfl)⟩ (fun v9 H locs hpo hG hS hq9 => ?_)
  have hg_1 := hg_1.call hq9 (tk_w.no ht_a0 (by decide))
  have hf1 := hf1.call hq9 (tk_w.no ht_a0 (by decide))
  refine tk_put (ci := 12) (v := .int v9) (ty := .int) (C := RX12) (T := TX12) (N := 17) (sp := (0, (-2147483648), 2147483647, 0)) hx hb htl inX12 tyX12 tyX12_ok nmX12 hown hK hG hS ht_a0 (by decide) tk_no rfl 14 (by decide) (htl _ mw_55) (fun _ h9 => h9) rfl (tyX12_ok 14 (by decide)) rfl rfl rfl (tk_V0 (tk_rng _).1 (tk_rng _).2) (fun _ h => h) (tk_w.of ht_a0 (by decide) (List.mem_of_getElem? (i := 0) rfl) (Nat.le_refl _) (Nat.le_refl _)) dX12_orders_28 (fun H locs hG hS hf11 hq9 hj9 => ?_)
  have hg_1 := hj9 15 _ (by decide) (by decide) hg_1
  have hf1 := hj9 13 _ (by decide) (by decide) hf1
  refine lv_aload_n hx hb dX12_orders_31 rfl (lv_at hl 1 rfl) ?_
  refine tk_get (ci := 12) (C := RX12) (T := TX12) (N := 17) (sp := (0, (-2147483648), 2147483647, 0)) hx hb htl inX12 hown hK hG ht_a0 (by decide) tk_no rfl 14 (by decide) (htl _ mw_55) (fun _ h9 => h9) rfl dX12_orders_32 (fun v9 hf13 hV9 => ?_)
  obtain ⟨v14, rfl, (ha_v14 : (-2147483648) ≤ v14.toInt), (hb_v14 : v14.toInt ≤ 2147483647)⟩ := hV9
  refine lv_iconst (v := (-1)) hx hb dX12_orders_35 (by decide) ?_
  refine lv_icmp_eq (tgt := 46) hx hb dX12_orders_36 (by decide) (fun c9 => ?_) (fun c9 => ?_)
  · have hc15 : v14.toInt = (-1) := (fi_eq rfl (show ((-1) : Int32).toInt = (-1) by decide)).mp c9
    refine lv_aload_n hx hb dX12_orders_46 rfl (lv_at hl 1 rfl) ?_
    refine lv_aload_n hx hb dX12_orders_47 rfl (lv_at hl 1 rfl) ?_
    refine tk_get (ci := 12) (C := RX12) (T := TX12) (N := 17) (sp := (6, 5, 0, 0)) hx hb htl inX12 hown hK hG ht_a0 (by decide) tk_no rfl 5 (by decide) (htl _ mw_31) (fun _ h9 => h9) rfl dX12_orders_48 (fun v9 hf16 hV9 => ?_)
    obtain ⟨b17, rfl, ht_b17⟩ := hV9
    have ht_b17 : t b17 = (5, 0, 0) := ht_b17
    refine lv_aload_n hx hb dX12_orders_51 rfl (lv_at hl 1 rfl) ?_
    refine tk_get (ci := 12) (C := RX12) (T := TX12) (N := 17) (sp := (6, 7, 0, 0)) hx hb htl inX12 hown hK hG ht_a0 (by decide) tk_no rfl 6 (by decide) (htl _ mw_37) (fun _ h9 => h9) rfl dX12_orders_52 (fun v9 hf18 hV9 => ?_)
    obtain ⟨b19, rfl, ht_b19⟩ := hV9
    have ht_b19 : t b19 = (7, 0, 0) := ht_b19
    refine tk_get (ci := 6) (C := RX6) (T := TX6) (N := 11) (sp := (6, 8, 512, 12)) hx hb htl inX6 hown hK hG ht_b19 (by decide) tk_no rfl 0 (by decide) (htl _ mw_467) (fun _ h9 => h9) rfl dX12_orders_55 (fun v9 hf20 hV9 => ?_)
    obtain ⟨b21, rfl, ht_b21⟩ := hV9
    have ht_b21 : t b21 = (8, 512, 12) := ht_b21
    refine tk_Vi (As := [.ref b21]) (rest := [.ref a0]) (ci := 4) ⟨hx, hb, hml, hown, hts⟩ hK hG hZ hS (k_X4_run l D cy ld t b17 b21 ht_b17 ht_b21) trivial ⟨callB_of 1 hts (wl_in mw_804) rfl rfl rfl (htl _ mw_29) (htl _ mw_801) hd_yX4_run ⟨(Nat.le_of_ble_eq_true rfl), (Nat.le_of_ble_eq_true rfl)⟩, htl _ mw_802, htl _ mw_803⟩ ht_b17 (by decide) tk_no rfl (tk_w.pick [6, 7, 8, 9, 10, 4, 1, 11, 12, 13, 14, 15] rfl) rfl hl.1 rfl (Nat.le_of_ble_eq_true rfl) dX12_orders_58 ⟨(Nat.le_of_ble_eq_true rfl), (Nat.le_of_ble_eq_true rfl)⟩ (fun v22 H locs hpo hG hS hq9 => ?_)
    have hg_1 := hg_1.call hq9 (tk_w.no ht_a0 (by decide))
    have hf1 := hf1.call hq9 (tk_w.no ht_a0 (by decide))
    have hk_0 : (0 : Int32).toInt = 0 := by decide
    refine tk_Vi (As := [.int v22]) (rest := []) (ci := 12) ⟨hx, hb, hml, hown, hts⟩ hK hG hZ hS (k_X12_tell_x l D cy ld t a0 v22 0 g15 ht_a0 (by omega) (by omega) (by omega) (by omega)) ⟨hf1, hg_1⟩ ⟨callB_of 1 hts (wl_in mw_271) rfl rfl rfl (htl _ mw_2) (htl _ mw_268) hd_yX12_tell ⟨(Nat.le_of_ble_eq_true rfl), (Nat.le_of_ble_eq_true rfl)⟩, htl _ mw_269, htl _ mw_270⟩ ht_a0 (by decide) tk_no rfl (tk_w.pick [0, 4] rfl) rfl hl.1 rfl (Nat.le_of_ble_eq_true rfl) dX12_orders_61 ⟨(Nat.le_of_ble_eq_true rfl), (Nat.le_of_ble_eq_true rfl)⟩ (fun v24 H locs hpo hG hS hq9 => ?_)
    obtain ⟨hpo26, hf27, hf28⟩ := hpo
    exact tk_iret (v := v24) hx hb hr rfl hlocks (show tk_f D H a0 12 13 (.int 0) ∧ tk_f D H a0 12 15 (.int g15) from ⟨hf27, hf28⟩) hG hS dX12_orders_64
  · have hc15 : ¬ (v14.toInt = (-1)) := fun h9 => c9 ((fi_eq rfl (show ((-1) : Int32).toInt = (-1) by decide)).mpr h9)
    refine lv_aload_n hx hb dX12_orders_39 rfl (lv_at hl 1 rfl) ?_
    refine lv_bipush (v := (-6)) hx hb dX12_orders_40 (by decide) ?_
    have hk_m6 : ((-6) : Int32).toInt = (-6) := by decide
    have hk_0 : (0 : Int32).toInt = 0 := by decide
    refine tk_Vi (As := [.int (-6)]) (rest := []) (ci := 12) ⟨hx, hb, hml, hown, hts⟩ hK hG hZ hS (k_X12_refuse_x l D cy ld t a0 (-6) 0 g15 ht_a0 (by omega) (by omega) (by omega) (by omega)) ⟨hf1, hg_1⟩ ⟨callB_of 1 hts (wl_in mw_275) rfl rfl rfl (htl _ mw_2) (htl _ mw_272) hd_yX12_refuse ⟨(Nat.le_of_ble_eq_true rfl), (Nat.le_of_ble_eq_true rfl)⟩, htl _ mw_273, htl _ mw_274⟩ ht_a0 (by decide) tk_no rfl (tk_w.pick [0, 4] rfl) rfl hl.1 rfl (Nat.le_of_ble_eq_true rfl) dX12_orders_42 ⟨(Nat.le_of_ble_eq_true rfl), (Nat.le_of_ble_eq_true rfl)⟩ (fun v29 H locs hpo hG hS hq9 => ?_)
    obtain ⟨hpo31, hf32, hf33⟩ := hpo
    exact tk_iret (v := v29) hx hb hr rfl hlocks (show tk_f D H a0 12 13 (.int 0) ∧ tk_f D H a0 12 15 (.int g15) from ⟨hf32, hf33⟩) hG hS dX12_orders_45
set_option maxHeartbeats 4000000 in
set_option maxRecDepth 100000 in
theorem k_X12_force_x (l : Launch) (D : va_G) (cy : Nat → ClassId) (ld : Nat → Nat) (t : tk_T) (a0 : Nat) (p1 : Int32) (g0 : Int32) (g15 : Int32) (n0 n1 n2 n3 : Int32) (fh fs fk q1 q2 q3 : Nat → Int32) (ht_a0 : t a0 = (13, 0, 0)) (ht_ld20 : t (ld 20) = (3, 0, 0)) (ht_ld70 : t (ld 70) = (32, 8, 0)) (ht_ld80 : t (ld 80) = (33, 10, 0)) (ht_ld90 : t (ld 90) = (34, 10, 0)) (ht_ld100 : t (ld 100) = (35, 10, 0)) (ht_ld110 : t (ld 110) = (36, 10, 0)) (ht_ld120 : t (ld 120) = (37, 10, 0)) (hp_0 : 0 ≤ n0.toInt) (hp_1 : n0.toInt ≤ 8) (hp_2 : 0 ≤ n1.toInt) (hp_3 : n1.toInt ≤ 10) (hp_4 : 0 ≤ n2.toInt) (hp_5 : n2.toInt ≤ 10) (hp_6 : 0 ≤ n3.toInt) (hp_7 : n3.toInt ≤ 8) (hp_8 : 0 ≤ g0.toInt) (hp_9 : g0.toInt ≤ 400) (hp_10 : (-2147483648) ≤ g15.toInt) (hp_11 : g15.toInt ≤ 2147483647) : Met l yX12_force (wl yX12_force cX12_force 3 (some .int)) ({ frames := 5, cells := 0, slots := 0, locals := 280 }) (tp D cy ld t [] [.ref a0, .int p1] (fun H => tk_f D H a0 12 13 (.int g0) ∧ tk_f D H a0 12 15 (.int g15) ∧ jC D ld (ld 20) 0 n0 n1 n2 n3 fh fs fk q1 q2 q3 H)) (ti D cy ld t [] (fun r H => tk_f D H a0 12 13 (.int g0) ∧ tk_f D H a0 12 15 (.int g15) ∧ jC D ld (ld 20) 0 n0 n1 n2 n3 fh fs fk q1 q2 q3 H) (tk_w t [(3, 0, 0), (13, 0, 0), (20, 0, 0)])) 0 0 (tk_w t [(3, 0, 0), (13, 0, 0), (20, 0, 0)]) := by
  refine tk_met (y := yX12_force) (cc := cX12_force) (maxL := 3) (ret := (some .int)) (av := [.ref a0, .int p1]) _ _ (by decide) (Nat.le_of_ble_eq_true rfl) ?_
  intro p e s m args below meth c hx hb hr hml hts htl hown hlocks hK H locs hH hG hS hB hZ ls hl
  have hown : s.vm.findClass RX12 = some m.cls := hown
  have hl : lv_has ls 3 [(0, .ref a0), (1, .int p1)] := hl
  obtain ⟨hg_0, hg_1, ⟨hj0_0, hj0_1, hj0_2, hj0_3, hj0_4, hj0_5, hj0_6, hj0_7, hj0_8, hj0_9⟩⟩ := hB
  have hr_p1 := tk_rng p1
  refine lv_iload_n hx hb dX12_force_0 rfl (lv_at hl 1 rfl) ?_
  refine lv_iconst (v := (-1)) hx hb dX12_force_1 (by decide) ?_
  refine lv_icmp_eq (tgt := 29) hx hb dX12_force_2 (by decide) (fun c9 => ?_) (fun c9 => ?_)
  · have hc1 : p1.toInt = (-1) := (fi_eq rfl (show ((-1) : Int32).toInt = (-1) by decide)).mp c9
    refine lv_aload_n hx hb dX12_force_29 rfl (lv_at hl 0 rfl) ?_
    refine tk_get (ci := 12) (C := RX12) (T := TX12) (N := 17) (sp := (8, 20, 3, 0)) hx hb htl inX12 hown hK hG ht_a0 (by decide) tk_no rfl 0 (by decide) (htl _ mw_15) (fun _ h9 => h9) rfl dX12_force_30 (fun v9 hf2 hV9 => ?_)
    obtain ⟨rfl, ht_ld20⟩ := hV9
    have ht_ld20 : t (ld 20) = (3, 0, 0) := ht_ld20
    refine fx_top (v := .ref (ld 20)) rfl ?_
    refine tk_get (ci := 2) (C := RX2) (T := TX2) (N := 20) (sp := (0, (-2147483648), 2147483647, 0)) hx hb htl inX2 hown hK hG ht_ld20 (by decide) tk_no rfl 15 (by decide) (htl _ mw_1183) (fun _ h9 => h9) rfl dX12_force_33 (fun v9 hf3 hV9 => ?_)
    obtain ⟨v4, rfl, (ha_v4 : (-2147483648) ≤ v4.toInt), (hb_v4 : v4.toInt ≤ 2147483647)⟩ := hV9
    refine lv_istore_n (lv' := [(2, .int v4), (0, .ref a0), (1, .int p1)]) hx hb dX12_force_36 rfl hl (by decide) rfl (fun ls hl => ?_)
    refine lv_aload_n hx hb dX12_force_37 rfl (lv_at hl 1 rfl) ?_
    refine tk_get (ci := 12) (C := RX12) (T := TX12) (N := 17) (sp := (8, 20, 3, 0)) hx hb htl inX12 hown hK hG ht_a0 (by decide) tk_no rfl 0 (by decide) (htl _ mw_15) (fun _ h9 => h9) rfl dX12_force_38 (fun v9 hf5 hV9 => ?_)
    obtain ⟨rfl, ht_ld20⟩ := hV9
    have ht_ld20 : t (ld 20) = (3, 0, 0) := ht_ld20
    refine fx_top (v := .ref (ld 20)) rfl ?_
    refine lv_iload_n hx hb dX12_force_41 rfl (lv_at hl 2 rfl) ?_
    refine tk_put (ci := 2) (v := .int p1) (ty := .int) (C := RX2) (T := TX2) (N := 20) (sp := (0, (-2147483648), 2147483647, 0)) hx hb htl inX2 tyX2 tyX2_ok nmX2 hown hK hG hS ht_ld20 (by decide) tk_no rfl 15 (by decide) (htl _ mw_1183) (fun _ h9 => h9) rfl (tyX2_ok 15 (by decide)) rfl rfl rfl (tk_V0 (tk_rng _).1 (tk_rng _).2) (fun _ h => h) (tk_w.of ht_ld20 (by decide) (List.mem_of_getElem? (i := 0) rfl) (Nat.le_refl _) (Nat.le_refl _)) dX12_force_42 (fun H locs hG hS hf6 hq9 hj9 => ?_)
    have hg_0 := hg_0.kept (hq9 _ (tk_ne ht_a0 ht_ld20 (Or.inl (by decide))))
    have hg_1 := hg_1.kept (hq9 _ (tk_ne ht_a0 ht_ld20 (Or.inl (by decide))))
    have hj0_0 := hj9 0 _ (by decide) (by decide) hj0_0
    have hj0_1 := hj9 4 _ (by decide) (by decide) hj0_1
    have hj0_2 := hj9 7 _ (by decide) (by decide) hj0_2
    have hj0_3 := hj9 11 _ (by decide) (by decide) hj0_3
    have hj0_4 := hj0_4.kept (hq9 _ (tk_ne ht_ld70 ht_ld20 (Or.inl (by decide))))
    have hj0_5 := hj0_5.kept (hq9 _ (tk_ne ht_ld80 ht_ld20 (Or.inl (by decide))))
    have hj0_6 := hj0_6.kept (hq9 _ (tk_ne ht_ld90 ht_ld20 (Or.inl (by decide))))
    have hj0_7 := hj0_7.kept (hq9 _ (tk_ne ht_ld100 ht_ld20 (Or.inl (by decide))))
    have hj0_8 := hj0_8.kept (hq9 _ (tk_ne ht_ld110 ht_ld20 (Or.inl (by decide))))
    have hj0_9 := hj0_9.kept (hq9 _ (tk_ne ht_ld120 ht_ld20 (Or.inl (by decide))))
    refine lv_aload_n hx hb dX12_force_45 rfl (lv_at hl 1 rfl) ?_
    refine lv_iload_n hx hb dX12_force_46 rfl (lv_at hl 0 rfl) ?_
    refine tk_Vi (As := [.int v4]) (rest := []) (ci := 12) ⟨hx, hb, hml, hown, hts⟩ hK hG hZ hS (k_X12_accept_x l D cy ld t a0 v4 g0 g15 ht_a0 (by omega) (by omega) (by omega) (by omega)) ⟨hg_0, hg_1⟩ ⟨callB_of 1 hts (wl_in mw_281) rfl rfl rfl (htl _ mw_2) (htl _ mw_278) hd_yX12_accept ⟨(Nat.le_of_ble_eq_true rfl), (Nat.le_of_ble_eq_true rfl)⟩, htl _ mw_279, htl _ mw_280⟩ ht_a0 (by decide) tk_no rfl (tk_w.pick [1] rfl) rfl hl.1 rfl (Nat.le_of_ble_eq_true rfl) dX12_force_47 ⟨(Nat.le_of_ble_eq_true rfl), (Nat.le_of_ble_eq_true rfl)⟩ (fun v8 H locs hpo hG hS hq9 => ?_)
    have hj0_0 := hj0_0.call hq9 (tk_w.no ht_ld20 (by decide))
    have hj0_1 := hj0_1.call hq9 (tk_w.no ht_ld20 (by decide))
    have hj0_2 := hj0_2.call hq9 (tk_w.no ht_ld20 (by decide))
    have hj0_3 := hj0_3.call hq9 (tk_w.no ht_ld20 (by decide))
    have hj0_4 := hj0_4.call hq9 (tk_w.no ht_ld70 (by decide))
    have hj0_5 := hj0_5.call hq9 (tk_w.no ht_ld80 (by decide))
    have hj0_6 := hj0_6.call hq9 (tk_w.no ht_ld90 (by decide))
    have hj0_7 := hj0_7.call hq9 (tk_w.no ht_ld100 (by decide))
    have hj0_8 := hj0_8.call hq9 (tk_w.no ht_ld110 (by decide))
    have hj0_9 := hj0_9.call hq9 (tk_w.no ht_ld120 (by decide))
    have hf6 := hf6.call hq9 (tk_w.no ht_ld20 (by decide))
    obtain ⟨hpo10, hf11, hf12⟩ := hpo
    exact tk_iret (v := v8) hx hb hr rfl hlocks (show tk_f D H a0 12 13 (.int g0) ∧ tk_f D H a0 12 15 (.int g15) ∧ jC D ld (ld 20) 0 n0 n1 n2 n3 fh fs fk q1 q2 q3 H from ⟨hf11, hf12, ⟨hj0_0, hj0_1, hj0_2, hj0_3, hj0_4, hj0_5, hj0_6, hj0_7, hj0_8, hj0_9⟩⟩) hG hS dX12_force_50
  · have hc1 : ¬ (p1.toInt = (-1)) := fun h9 => c9 ((fi_eq rfl (show ((-1) : Int32).toInt = (-1) by decide)).mpr h9)
    refine lv_iload_n hx hb dX12_force_5 rfl (lv_at hl 1 rfl) ?_
    refine lv_iconst (v := 0) hx hb dX12_force_6 (by decide) ?_
    refine lv_aload_n hx hb dX12_force_7 rfl (lv_at hl 0 rfl) ?_
    refine tk_get (ci := 12) (C := RX12) (T := TX12) (N := 17) (sp := (8, 20, 3, 0)) hx hb htl inX12 hown hK hG ht_a0 (by decide) tk_no rfl 0 (by decide) (htl _ mw_15) (fun _ h9 => h9) rfl dX12_force_8 (fun v9 hf13 hV9 => ?_)
    obtain ⟨rfl, ht_ld20⟩ := hV9
    have ht_ld20 : t (ld 20) = (3, 0, 0) := ht_ld20
    refine fx_top (v := .ref (ld 20)) rfl ?_
    refine tk_get (ci := 2) (C := RX2) (T := TX2) (N := 20) (sp := (0, 0, 6, 0)) hx hb htl inX2 hown hK hG ht_ld20 (by decide) tk_no rfl 13 (by decide) (htl _ mw_466) (fun _ h9 => h9) rfl dX12_force_11 (fun v9 hf14 hV9 => ?_)
    obtain ⟨v15, rfl, (ha_v15 : 0 ≤ v15.toInt), (hb_v15 : v15.toInt ≤ 6)⟩ := hV9
    refine lv_iconst (v := 1) hx hb dX12_force_14 (by decide) ?_
    refine lv_isub hx hb dX12_force_15 ?_
    refine tk_sub rfl (show (1 : Int32).toInt = 1 by decide) (by omega) (by omega) (fun v16 h_v16 => ?_)
    have hk_0 : (0 : Int32).toInt = 0 := by decide
    refine tk_Si (As := [.int p1, .int 0, .int v16]) (rest := []) ⟨hx, hb, hml, hown, hts⟩ hK hG hZ hS (k_X12_within_x l D cy ld t _ p1 0 v16) trivial ⟨callB_of 3 hts (wl_in mw_262) rfl rfl rfl (htl _ mw_2) (htl _ mw_277) hd_yX12_within ⟨(Nat.le_of_ble_eq_true rfl), (Nat.le_of_ble_eq_true rfl)⟩, htl _ mw_261⟩ (tk_w.pick [] rfl) rfl hl.1 rfl (Nat.le_of_ble_eq_true rfl) dX12_force_16 ⟨(Nat.le_of_ble_eq_true rfl), (Nat.le_of_ble_eq_true rfl)⟩ (fun v17 H locs hpo hG hS hq9 => ?_)
    have hg_0 := hg_0.call hq9 tk_w.nil
    have hg_1 := hg_1.call hq9 tk_w.nil
    have hj0_0 := hj0_0.call hq9 tk_w.nil
    have hj0_1 := hj0_1.call hq9 tk_w.nil
    have hj0_2 := hj0_2.call hq9 tk_w.nil
    have hj0_3 := hj0_3.call hq9 tk_w.nil
    have hj0_4 := hj0_4.call hq9 tk_w.nil
    have hj0_5 := hj0_5.call hq9 tk_w.nil
    have hj0_6 := hj0_6.call hq9 tk_w.nil
    have hj0_7 := hj0_7.call hq9 tk_w.nil
    have hj0_8 := hj0_8.call hq9 tk_w.nil
    have hj0_9 := hj0_9.call hq9 tk_w.nil
    have hf14 := hf14.call hq9 tk_w.nil
    obtain ⟨hpo19, hpo20, hpo21, hpo22, hpo23, hpo24⟩ := hpo
    refine lv_if_ne (tgt := 29) hx hb dX12_force_19 (by decide) (fun c9 => ?_) (fun c9 => ?_)
    · have hc25 : ¬ (v17.toInt = 0) := fun h9 => c9 ((fi_eq rfl (show (0 : Int32).toInt = 0 by decide)).mpr h9)
      refine lv_aload_n hx hb dX12_force_29 rfl (lv_at hl 0 rfl) ?_
      refine tk_get (ci := 12) (C := RX12) (T := TX12) (N := 17) (sp := (8, 20, 3, 0)) hx hb htl inX12 hown hK hG ht_a0 (by decide) tk_no rfl 0 (by decide) (htl _ mw_15) (fun _ h9 => h9) rfl dX12_force_30 (fun v9 hf26 hV9 => ?_)
      obtain ⟨rfl, ht_ld20⟩ := hV9
      have ht_ld20 : t (ld 20) = (3, 0, 0) := ht_ld20
      refine fx_top (v := .ref (ld 20)) rfl ?_
      refine tk_get (ci := 2) (C := RX2) (T := TX2) (N := 20) (sp := (0, (-2147483648), 2147483647, 0)) hx hb htl inX2 hown hK hG ht_ld20 (by decide) tk_no rfl 15 (by decide) (htl _ mw_1183) (fun _ h9 => h9) rfl dX12_force_33 (fun v9 hf27 hV9 => ?_)
      obtain ⟨v28, rfl, (ha_v28 : (-2147483648) ≤ v28.toInt), (hb_v28 : v28.toInt ≤ 2147483647)⟩ := hV9
      refine lv_istore_n (lv' := [(2, .int v28), (0, .ref a0), (1, .int p1)]) hx hb dX12_force_36 rfl hl (by decide) rfl (fun ls hl => ?_)
      refine lv_aload_n hx hb dX12_force_37 rfl (lv_at hl 1 rfl) ?_
      refine tk_get (ci := 12) (C := RX12) (T := TX12) (N := 17) (sp := (8, 20, 3, 0)) hx hb htl inX12 hown hK hG ht_a0 (by decide) tk_no rfl 0 (by decide) (htl _ mw_15) (fun _ h9 => h9) rfl dX12_force_38 (fun v9 hf29 hV9 => ?_)
      obtain ⟨rfl, ht_ld20⟩ := hV9
      have ht_ld20 : t (ld 20) = (3, 0, 0) := ht_ld20
      refine fx_top (v := .ref (ld 20)) rfl ?_
      refine lv_iload_n hx hb dX12_force_41 rfl (lv_at hl 2 rfl) ?_
      refine tk_put (ci := 2) (v := .int p1) (ty := .int) (C := RX2) (T := TX2) (N := 20) (sp := (0, (-2147483648), 2147483647, 0)) hx hb htl inX2 tyX2 tyX2_ok nmX2 hown hK hG hS ht_ld20 (by decide) tk_no rfl 15 (by decide) (htl _ mw_1183) (fun _ h9 => h9) rfl (tyX2_ok 15 (by decide)) rfl rfl rfl (tk_V0 (tk_rng _).1 (tk_rng _).2) (fun _ h => h) (tk_w.of ht_ld20 (by decide) (List.mem_of_getElem? (i := 0) rfl) (Nat.le_refl _) (Nat.le_refl _)) dX12_force_42 (fun H locs hG hS hf30 hq9 hj9 => ?_)
      have hg_0 := hg_0.kept (hq9 _ (tk_ne ht_a0 ht_ld20 (Or.inl (by decide))))
      have hg_1 := hg_1.kept (hq9 _ (tk_ne ht_a0 ht_ld20 (Or.inl (by decide))))
      have hj0_0 := hj9 0 _ (by decide) (by decide) hj0_0
      have hj0_1 := hj9 4 _ (by decide) (by decide) hj0_1
      have hj0_2 := hj9 7 _ (by decide) (by decide) hj0_2
      have hj0_3 := hj9 11 _ (by decide) (by decide) hj0_3
      have hj0_4 := hj0_4.kept (hq9 _ (tk_ne ht_ld70 ht_ld20 (Or.inl (by decide))))
      have hj0_5 := hj0_5.kept (hq9 _ (tk_ne ht_ld80 ht_ld20 (Or.inl (by decide))))
      have hj0_6 := hj0_6.kept (hq9 _ (tk_ne ht_ld90 ht_ld20 (Or.inl (by decide))))
      have hj0_7 := hj0_7.kept (hq9 _ (tk_ne ht_ld100 ht_ld20 (Or.inl (by decide))))
      have hj0_8 := hj0_8.kept (hq9 _ (tk_ne ht_ld110 ht_ld20 (Or.inl (by decide))))
      have hj0_9 := hj0_9.kept (hq9 _ (tk_ne ht_ld120 ht_ld20 (Or.inl (by decide))))
      have hf14 := hj9 13 _ (by decide) (by decide) hf14
      refine lv_aload_n hx hb dX12_force_45 rfl (lv_at hl 1 rfl) ?_
      refine lv_iload_n hx hb dX12_force_46 rfl (lv_at hl 0 rfl) ?_
      refine tk_Vi (As := [.int v28]) (rest := []) (ci := 12) ⟨hx, hb, hml, hown, hts⟩ hK hG hZ hS (k_X12_accept_x l D cy ld t a0 v28 g0 g15 ht_a0 (by omega) (by omega) (by omega) (by omega)) ⟨hg_0, hg_1⟩ ⟨callB_of 1 hts (wl_in mw_281) rfl rfl rfl (htl _ mw_2) (htl _ mw_278) hd_yX12_accept ⟨(Nat.le_of_ble_eq_true rfl), (Nat.le_of_ble_eq_true rfl)⟩, htl _ mw_279, htl _ mw_280⟩ ht_a0 (by decide) tk_no rfl (tk_w.pick [1] rfl) rfl hl.1 rfl (Nat.le_of_ble_eq_true rfl) dX12_force_47 ⟨(Nat.le_of_ble_eq_true rfl), (Nat.le_of_ble_eq_true rfl)⟩ (fun v32 H locs hpo hG hS hq9 => ?_)
      have hj0_0 := hj0_0.call hq9 (tk_w.no ht_ld20 (by decide))
      have hj0_1 := hj0_1.call hq9 (tk_w.no ht_ld20 (by decide))
      have hj0_2 := hj0_2.call hq9 (tk_w.no ht_ld20 (by decide))
      have hj0_3 := hj0_3.call hq9 (tk_w.no ht_ld20 (by decide))
      have hj0_4 := hj0_4.call hq9 (tk_w.no ht_ld70 (by decide))
      have hj0_5 := hj0_5.call hq9 (tk_w.no ht_ld80 (by decide))
      have hj0_6 := hj0_6.call hq9 (tk_w.no ht_ld90 (by decide))
      have hj0_7 := hj0_7.call hq9 (tk_w.no ht_ld100 (by decide))
      have hj0_8 := hj0_8.call hq9 (tk_w.no ht_ld110 (by decide))
      have hj0_9 := hj0_9.call hq9 (tk_w.no ht_ld120 (by decide))
      have hf14 := hf14.call hq9 (tk_w.no ht_ld20 (by decide))
      have hf30 := hf30.call hq9 (tk_w.no ht_ld20 (by decide))
      obtain ⟨hpo34, hf35, hf36⟩ := hpo
      exact tk_iret (v := v32) hx hb hr rfl hlocks (show tk_f D H a0 12 13 (.int g0) ∧ tk_f D H a0 12 15 (.int g15) ∧ jC D ld (ld 20) 0 n0 n1 n2 n3 fh fs fk q1 q2 q3 H from ⟨hf35, hf36, ⟨hj0_0, hj0_1, hj0_2, hj0_3, hj0_4, hj0_5, hj0_6, hj0_7, hj0_8, hj0_9⟩⟩) hG hS dX12_force_50
    · have hc25 : v17.toInt = 0 := (fi_eq rfl (show (0 : Int32).toInt = 0 by decide)).mp c9
      refine lv_aload_n hx hb dX12_force_22 rfl (lv_at hl 0 rfl) ?_
      refine lv_bipush (v := (-2)) hx hb dX12_force_23 (by decide) ?_
      have hk_m2 : ((-2) : Int32).toInt = (-2) := by decide
      refine tk_Vi (As := [.int (-2)]) (rest := []) (ci := 12) ⟨hx, hb, hml, hown, hts⟩ hK hG hZ hS (k_X12_refuse_x l D cy ld t a0 (-2) g0 g15 ht_a0 (by omega) (by omega) (by omega) (by omega)) ⟨hg_0, hg_1⟩ ⟨callB_of 1 hts (wl_in mw_275) rfl rfl rfl (htl _ mw_2) (htl _ mw_272) hd_yX12_refuse ⟨(Nat.le_of_ble_eq_true rfl), (Nat.le_of_ble_eq_true rfl)⟩, htl _ mw_273, htl _ mw_274⟩ ht_a0 (by decide) tk_no rfl (tk_w.pick [1, 2] rfl) rfl hl.1 rfl (Nat.le_of_ble_eq_true rfl) dX12_force_25 ⟨(Nat.le_of_ble_eq_true rfl), (Nat.le_of_ble_eq_true rfl)⟩ (fun v37 H locs hpo hG hS hq9 => ?_)
      have hj0_0 := hj0_0.call hq9 (tk_w.no ht_ld20 (by decide))
      have hj0_1 := hj0_1.call hq9 (tk_w.no ht_ld20 (by decide))
      have hj0_2 := hj0_2.call hq9 (tk_w.no ht_ld20 (by decide))
      have hj0_3 := hj0_3.call hq9 (tk_w.no ht_ld20 (by decide))
      have hj0_4 := hj0_4.call hq9 (tk_w.no ht_ld70 (by decide))
      have hj0_5 := hj0_5.call hq9 (tk_w.no ht_ld80 (by decide))
      have hj0_6 := hj0_6.call hq9 (tk_w.no ht_ld90 (by decide))
      have hj0_7 := hj0_7.call hq9 (tk_w.no ht_ld100 (by decide))
      have hj0_8 := hj0_8.call hq9 (tk_w.no ht_ld110 (by decide))
      have hj0_9 := hj0_9.call hq9 (tk_w.no ht_ld120 (by decide))
      have hf14 := hf14.call hq9 (tk_w.no ht_ld20 (by decide))
      obtain ⟨hpo39, hf40, hf41⟩ := hpo
      exact tk_iret (v := v37) hx hb hr rfl hlocks (show tk_f D H a0 12 13 (.int g0) ∧ tk_f D H a0 12 15 (.int g15) ∧ jC D ld (ld 20) 0 n0 n1 n2 n3 fh fs fk q1 q2 q3 H from ⟨hf40, hf41, ⟨hj0_0, hj0_1, hj0_2, hj0_3, hj0_4, hj0_5, hj0_6, hj0_7, hj0_8, hj0_9⟩⟩) hG hS dX12_force_28
set_option maxHeartbeats 4000000 in
set_option maxRecDepth 100000 in
theorem k_X12_begin_x (l : Launch) (D : va_G) (cy : Nat → ClassId) (ld : Nat → Nat) (t : tk_T) (a0 : Nat) (p1 : Int32) (p2 : Int32) (p3 : Int32) (g0 : Int32) (g15 : Int32) (ht_a0 : t a0 = (13, 0, 0)) (hp_0 : 0 ≤ g0.toInt) (hp_1 : g0.toInt ≤ 400) (hp_2 : (-2147483648) ≤ g15.toInt) (hp_3 : g15.toInt ≤ 2147483647) : Met l yX12_begin (wl yX12_begin cX12_begin 4 (some .int)) ({ frames := 7, cells := 0, slots := 0, locals := 420 }) (tp D cy ld t [] [.ref a0, .int p1, .int p2, .int p3] (fun H => tk_f D H a0 12 13 (.int g0) ∧ tk_f D H a0 12 15 (.int g15))) (ti D cy ld t [] (fun r H => (-3) ≤ r.toInt ∧ r.toInt ≤ 0 ∧ tk_f D H a0 12 13 (.int g0) ∧ tk_f D H a0 12 15 (.int g15)) (tk_w t [(2, 0, 0), (20, 1, 1), (10, 1, 1), (20, 0, 0), (10, 0, 0), (13, 0, 0)])) 0 0 (tk_w t [(2, 0, 0), (20, 1, 1), (10, 1, 1), (20, 0, 0), (10, 0, 0), (13, 0, 0)]) := by
  refine tk_met (y := yX12_begin) (cc := cX12_begin) (maxL := 4) (ret := (some .int)) (av := [.ref a0, .int p1, .int p2, .int p3]) _ _ (by decide) (Nat.le_of_ble_eq_true rfl) ?_
  intro p e s m args below meth c hx hb hr hml hts htl hown hlocks hK H locs hH hG hS hB hZ ls hl
  have hown : s.vm.findClass RX12 = some m.cls := hown
  have hl : lv_has ls 4 [(0, .ref a0), (1, .int p1), (2, .int p2), (3, .int p3)] := hl
  obtain ⟨hg_0, hg_1⟩ := hB
  have hr_p1 := tk_rng p1
  have hr_p2 := tk_rng p2
  have hr_p3 := tk_rng p3
  refine lv_aload_n hx hb dX12_begin_0 rfl (lv_at hl 0 rfl) ?_
  refine lv_aload_n hx hb dX12_begin_1 rfl (lv_at hl 0 rfl) ?_
  refine tk_get (ci := 12) (C := RX12) (T := TX12) (N := 17) (sp := (6, 2, 0, 0)) hx hb htl inX12 hown hK hG ht_a0 (by decide) tk_no rfl 4 (by decide) (htl _ mw_26) (fun _ h9 => h9) rfl dX12_begin_2 (fun v9 hf1 hV9 => ?_)
  obtain ⟨b2, rfl, ht_b2⟩ := hV9
  have ht_b2 : t b2 = (2, 0, 0) := ht_b2
  refine lv_iload_n hx hb dX12_begin_5 rfl (lv_at hl 1 rfl) ?_
  refine lv_iload_n hx hb dX12_begin_6 rfl (lv_at hl 2 rfl) ?_
  refine lv_iload_n hx hb dX12_begin_7 rfl (lv_at hl 3 rfl) ?_
  refine tk_Vi (As := [.int p1, .int p2, .int p3]) (rest := [.ref a0]) (ci := 1) ⟨hx, hb, hml, hown, hts⟩ hK hG hZ hS (k_X1_openDuel l D cy ld t b2 p1 p2 p3 ht_b2) trivial ⟨callB_of 3 hts (wl_in mw_873) rfl rfl rfl (htl _ mw_25) (htl _ mw_1219) hd_yX1_openDuel ⟨(Nat.le_of_ble_eq_true rfl), (Nat.le_of_ble_eq_true rfl)⟩, htl _ mw_871, htl _ mw_872⟩ ht_b2 (by decide) tk_no rfl (tk_w.pick [0, 1, 2, 3, 4] rfl) rfl hl.1 rfl (Nat.le_of_ble_eq_true rfl) dX12_begin_8 ⟨(Nat.le_of_ble_eq_true rfl), (Nat.le_of_ble_eq_true rfl)⟩ (fun v3 H locs hpo hG hS hq9 => ?_)
  have hg_0 := hg_0.call hq9 (tk_w.no ht_a0 (by decide))
  have hg_1 := hg_1.call hq9 (tk_w.no ht_a0 (by decide))
  obtain ⟨hpo5, hpo6⟩ := hpo
  refine tk_Vi (As := [.int v3]) (rest := []) (ci := 12) ⟨hx, hb, hml, hown, hts⟩ hK hG hZ hS (k_X12_tell_x l D cy ld t a0 v3 g0 g15 ht_a0 (by omega) (by omega) (by omega) (by omega)) ⟨hg_0, hg_1⟩ ⟨callB_of 1 hts (wl_in mw_271) rfl rfl rfl (htl _ mw_2) (htl _ mw_268) hd_yX12_tell ⟨(Nat.le_of_ble_eq_true rfl), (Nat.le_of_ble_eq_true rfl)⟩, htl _ mw_269, htl _ mw_270⟩ ht_a0 (by decide) tk_no rfl (tk_w.pick [5, 3] rfl) rfl hl.1 rfl (Nat.le_of_ble_eq_true rfl) dX12_begin_11 ⟨(Nat.le_of_ble_eq_true rfl), (Nat.le_of_ble_eq_true rfl)⟩ (fun v7 H locs hpo hG hS hq9 => ?_)
  obtain ⟨hpo9, hf10, hf11⟩ := hpo
  exact tk_iret (v := v7) hx hb hr rfl hlocks (show (-3) ≤ v7.toInt ∧ v7.toInt ≤ 0 ∧ tk_f D H a0 12 13 (.int g0) ∧ tk_f D H a0 12 15 (.int g15) from ⟨(by omega), (by omega), hf10, hf11⟩) hG hS dX12_begin_14
set_option maxHeartbeats 4000000 in
set_option maxRecDepth 100000 in
theorem k_X12_sing_x (l : Launch) (D : va_G) (cy : Nat → ClassId) (ld : Nat → Nat) (t : tk_T) (a0 : Nat) (p1 : Int32) (g0 : Int32) (g15 : Int32) (ht_a0 : t a0 = (13, 0, 0)) (hp_0 : 0 ≤ g0.toInt) (hp_1 : g0.toInt ≤ 400) (hp_2 : (-2147483648) ≤ g15.toInt) (hp_3 : g15.toInt ≤ 2147483647) : Met l yX12_sing (wl yX12_sing cX12_sing 2 (some .int)) ({ frames := 8, cells := 0, slots := 0, locals := 490 }) (tp D cy ld t [] [.ref a0, .int p1] (fun H => tk_f D H a0 12 13 (.int g0) ∧ tk_f D H a0 12 15 (.int g15))) (ti D cy ld t [] (fun r H => tk_f D H a0 12 13 (.int g0) ∧ tk_f D H a0 12 15 (.int g15)) (tk_w t [(20, 0, 0), (12, 0, 0), (9, 0, 0), (2, 0, 0), (20, 1, 1), (10, 1, 1), (10, 0, 0), (13, 0, 0)])) 0 0 (tk_w t [(20, 0, 0), (12, 0, 0), (9, 0, 0), (2, 0, 0), (20, 1, 1), (10, 1, 1), (10, 0, 0), (13, 0, 0)]) := by
  refine tk_met (y := yX12_sing) (cc := cX12_sing) (maxL := 2) (ret := (some .int)) (av := [.ref a0, .int p1]) _ _ (by decide) (Nat.le_of_ble_eq_true rfl) ?_
  intro p e s m args below meth c hx hb hr hml hts htl hown hlocks hK H locs hH hG hS hB hZ ls hl
  have hown : s.vm.findClass RX12 = some m.cls := hown
  have hl : lv_has ls 2 [(0, .ref a0), (1, .int p1)] := hl
  obtain ⟨hg_0, hg_1⟩ := hB
  have hr_p1 := tk_rng p1
  refine lv_aload_n hx hb dX12_sing_0 rfl (lv_at hl 0 rfl) ?_
  refine lv_aload_n hx hb dX12_sing_1 rfl (lv_at hl 0 rfl) ?_
  refine tk_get (ci := 12) (C := RX12) (T := TX12) (N := 17) (sp := (6, 2, 0, 0)) hx hb htl inX12 hown hK hG ht_a0 (by decide) tk_no rfl 4 (by decide) (htl _ mw_26) (fun _ h9 => h9) rfl dX12_sing_2 (fun v9 hf1 hV9 => ?_)
  obtain ⟨b2, rfl, ht_b2⟩ := hV9
  have ht_b2 : t b2 = (2, 0, 0) := ht_b2
  refine lv_iload_n hx hb dX12_sing_5 rfl (lv_at hl 1 rfl) ?_
  refine tk_Vi (As := [.int p1]) (rest := [.ref a0]) (ci := 1) ⟨hx, hb, hml, hown, hts⟩ hK hG hZ hS (k_X1_singVerse l D cy ld t b2 p1 ht_b2) trivial ⟨callB_of 1 hts (wl_in mw_896) rfl rfl rfl (htl _ mw_25) (htl _ mw_1243) hd_yX1_singVerse ⟨(Nat.le_of_ble_eq_true rfl), (Nat.le_of_ble_eq_true rfl)⟩, htl _ mw_894, htl _ mw_895⟩ ht_b2 (by decide) tk_no rfl (tk_w.pick [0, 1, 2, 3, 4, 5, 6] rfl) rfl hl.1 rfl (Nat.le_of_ble_eq_true rfl) dX12_sing_6 ⟨(Nat.le_of_ble_eq_true rfl), (Nat.le_of_ble_eq_true rfl)⟩ (fun v3 H locs hpo hG hS hq9 => ?_)
  have hg_0 := hg_0.call hq9 (tk_w.no ht_a0 (by decide))
  have hg_1 := hg_1.call hq9 (tk_w.no ht_a0 (by decide))
  refine tk_Vi (As := [.int v3]) (rest := []) (ci := 12) ⟨hx, hb, hml, hown, hts⟩ hK hG hZ hS (k_X12_tell_x l D cy ld t a0 v3 g0 g15 ht_a0 (by omega) (by omega) (by omega) (by omega)) ⟨hg_0, hg_1⟩ ⟨callB_of 1 hts (wl_in mw_271) rfl rfl rfl (htl _ mw_2) (htl _ mw_268) hd_yX12_tell ⟨(Nat.le_of_ble_eq_true rfl), (Nat.le_of_ble_eq_true rfl)⟩, htl _ mw_269, htl _ mw_270⟩ ht_a0 (by decide) tk_no rfl (tk_w.pick [7, 0] rfl) rfl hl.1 rfl (Nat.le_of_ble_eq_true rfl) dX12_sing_9 ⟨(Nat.le_of_ble_eq_true rfl), (Nat.le_of_ble_eq_true rfl)⟩ (fun v5 H locs hpo hG hS hq9 => ?_)
  obtain ⟨hpo7, hf8, hf9⟩ := hpo
  exact tk_iret (v := v5) hx hb hr rfl hlocks (show tk_f D H a0 12 13 (.int g0) ∧ tk_f D H a0 12 15 (.int g15) from ⟨hf8, hf9⟩) hG hS dX12_sing_12
set_option maxHeartbeats 4000000 in
set_option maxRecDepth 100000 in
theorem k_X12_part_x (l : Launch) (D : va_G) (cy : Nat → ClassId) (ld : Nat → Nat) (t : tk_T) (a0 : Nat) (g0 : Int32) (g15 : Int32) (ht_a0 : t a0 = (13, 0, 0)) (hp_0 : 0 ≤ g0.toInt) (hp_1 : g0.toInt ≤ 400) (hp_2 : (-2147483648) ≤ g15.toInt) (hp_3 : g15.toInt ≤ 2147483647) : Met l yX12_part (wl yX12_part cX12_part 1 (some .int)) ({ frames := 7, cells := 0, slots := 0, locals := 420 }) (tp D cy ld t [] [.ref a0] (fun H => tk_f D H a0 12 13 (.int g0) ∧ tk_f D H a0 12 15 (.int g15))) (ti D cy ld t [] (fun r H => tk_f D H a0 12 13 (.int g0) ∧ tk_f D H a0 12 15 (.int g15)) (tk_w t [(2, 0, 0), (20, 1, 1), (10, 1, 1), (20, 0, 0), (10, 0, 0), (13, 0, 0)])) 0 0 (tk_w t [(2, 0, 0), (20, 1, 1), (10, 1, 1), (20, 0, 0), (10, 0, 0), (13, 0, 0)]) := by
  refine tk_met (y := yX12_part) (cc := cX12_part) (maxL := 1) (ret := (some .int)) (av := [.ref a0]) _ _ (by decide) (Nat.le_of_ble_eq_true rfl) ?_
  intro p e s m args below meth c hx hb hr hml hts htl hown hlocks hK H locs hH hG hS hB hZ ls hl
  have hown : s.vm.findClass RX12 = some m.cls := hown
  have hl : lv_has ls 1 [(0, .ref a0)] := hl
  obtain ⟨hg_0, hg_1⟩ := hB
  refine lv_aload_n hx hb dX12_part_0 rfl (lv_at hl 0 rfl) ?_
  refine lv_aload_n hx hb dX12_part_1 rfl (lv_at hl 0 rfl) ?_
  refine tk_get (ci := 12) (C := RX12) (T := TX12) (N := 17) (sp := (6, 2, 0, 0)) hx hb htl inX12 hown hK hG ht_a0 (by decide) tk_no rfl 4 (by decide) (htl _ mw_26) (fun _ h9 => h9) rfl dX12_part_2 (fun v9 hf1 hV9 => ?_)
  obtain ⟨b2, rfl, ht_b2⟩ := hV9
  have ht_b2 : t b2 = (2, 0, 0) := ht_b2
  refine tk_Vi (As := []) (rest := [.ref a0]) (ci := 1) ⟨hx, hb, hml, hown, hts⟩ hK hG hZ hS (k_X1_leaveDuel l D cy ld t b2 ht_b2) trivial ⟨callB_of 0 hts (wl_in mw_984) rfl rfl rfl (htl _ mw_25) (htl _ mw_1252) hd_yX1_leaveDuel ⟨(Nat.le_of_ble_eq_true rfl), (Nat.le_of_ble_eq_true rfl)⟩, htl _ mw_982, htl _ mw_983⟩ ht_b2 (by decide) tk_no rfl (tk_w.pick [0, 1, 2, 3, 4] rfl) rfl hl.1 rfl (Nat.le_of_ble_eq_true rfl) dX12_part_5 ⟨(Nat.le_of_ble_eq_true rfl), (Nat.le_of_ble_eq_true rfl)⟩ (fun v3 H locs hpo hG hS hq9 => ?_)
  have hg_0 := hg_0.call hq9 (tk_w.no ht_a0 (by decide))
  have hg_1 := hg_1.call hq9 (tk_w.no ht_a0 (by decide))
  refine tk_Vi (As := [.int v3]) (rest := []) (ci := 12) ⟨hx, hb, hml, hown, hts⟩ hK hG hZ hS (k_X12_tell_x l D cy ld t a0 v3 g0 g15 ht_a0 (by omega) (by omega) (by omega) (by omega)) ⟨hg_0, hg_1⟩ ⟨callB_of 1 hts (wl_in mw_271) rfl rfl rfl (htl _ mw_2) (htl _ mw_268) hd_yX12_tell ⟨(Nat.le_of_ble_eq_true rfl), (Nat.le_of_ble_eq_true rfl)⟩, htl _ mw_269, htl _ mw_270⟩ ht_a0 (by decide) tk_no rfl (tk_w.pick [5, 3] rfl) rfl hl.1 rfl (Nat.le_of_ble_eq_true rfl) dX12_part_8 ⟨(Nat.le_of_ble_eq_true rfl), (Nat.le_of_ble_eq_true rfl)⟩ (fun v5 H locs hpo hG hS hq9 => ?_)
  obtain ⟨hpo7, hf8, hf9⟩ := hpo
  exact tk_iret (v := v5) hx hb hr rfl hlocks (show tk_f D H a0 12 13 (.int g0) ∧ tk_f D H a0 12 15 (.int g15) from ⟨hf8, hf9⟩) hG hS dX12_part_11
set_option maxHeartbeats 4000000 in
set_option maxRecDepth 100000 in
theorem k_X12_dawn_x (l : Launch) (D : va_G) (cy : Nat → ClassId) (ld : Nat → Nat) (t : tk_T) (a0 : Nat) (g0 : Int32) (g15 : Int32) (ht_a0 : t a0 = (13, 0, 0)) (hp_0 : 0 ≤ g0.toInt) (hp_1 : g0.toInt ≤ 400) (hp_2 : (-2147483648) ≤ g15.toInt) (hp_3 : g15.toInt ≤ 2147483647) : Met l yX12_dawn (wl yX12_dawn cX12_dawn 1 (some .int)) ({ frames := 8, cells := 0, slots := 0, locals := 490 }) (tp D cy ld t [] [.ref a0] (fun H => tk_f D H a0 12 13 (.int g0) ∧ tk_f D H a0 12 15 (.int g15))) (ti D cy ld t [] (fun r H => tk_f D H a0 12 13 (.int g0) ∧ tk_f D H a0 12 15 (.int g15)) (tk_w t [(2, 0, 0), (20, 1, 1), (10, 1, 1), (20, 0, 0), (10, 0, 0), (12, 0, 0), (9, 0, 0), (13, 0, 0)])) 0 0 (tk_w t [(2, 0, 0), (20, 1, 1), (10, 1, 1), (20, 0, 0), (10, 0, 0), (12, 0, 0), (9, 0, 0), (13, 0, 0)]) := by
  refine tk_met (y := yX12_dawn) (cc := cX12_dawn) (maxL := 1) (ret := (some .int)) (av := [.ref a0]) _ _ (by decide) (Nat.le_of_ble_eq_true rfl) ?_
  intro p e s m args below meth c hx hb hr hml hts htl hown hlocks hK H locs hH hG hS hB hZ ls hl
  have hown : s.vm.findClass RX12 = some m.cls := hown
  have hl : lv_has ls 1 [(0, .ref a0)] := hl
  obtain ⟨hg_0, hg_1⟩ := hB
  refine lv_aload_n hx hb dX12_dawn_0 rfl (lv_at hl 0 rfl) ?_
  refine lv_aload_n hx hb dX12_dawn_1 rfl (lv_at hl 0 rfl) ?_
  refine tk_get (ci := 12) (C := RX12) (T := TX12) (N := 17) (sp := (6, 2, 0, 0)) hx hb htl inX12 hown hK hG ht_a0 (by decide) tk_no rfl 4 (by decide) (htl _ mw_26) (fun _ h9 => h9) rfl dX12_dawn_2 (fun v9 hf1 hV9 => ?_)
  obtain ⟨b2, rfl, ht_b2⟩ := hV9
  have ht_b2 : t b2 = (2, 0, 0) := ht_b2
  refine tk_Vi (As := []) (rest := [.ref a0]) (ci := 1) ⟨hx, hb, hml, hown, hts⟩ hK hG hZ hS (k_X1_nextDay l D cy ld t b2 ht_b2) trivial ⟨callB_of 0 hts (wl_in mw_990) rfl rfl rfl (htl _ mw_25) (htl _ mw_1261) hd_yX1_nextDay ⟨(Nat.le_of_ble_eq_true rfl), (Nat.le_of_ble_eq_true rfl)⟩, htl _ mw_988, htl _ mw_989⟩ ht_b2 (by decide) tk_no rfl (tk_w.pick [0, 1, 2, 3, 4, 5, 6] rfl) rfl hl.1 rfl (Nat.le_of_ble_eq_true rfl) dX12_dawn_5 ⟨(Nat.le_of_ble_eq_true rfl), (Nat.le_of_ble_eq_true rfl)⟩ (fun v3 H locs hpo hG hS hq9 => ?_)
  have hg_0 := hg_0.call hq9 (tk_w.no ht_a0 (by decide))
  have hg_1 := hg_1.call hq9 (tk_w.no ht_a0 (by decide))
  refine tk_Vi (As := [.int v3]) (rest := []) (ci := 12) ⟨hx, hb, hml, hown, hts⟩ hK hG hZ hS (k_X12_tell_x l D cy ld t a0 v3 g0 g15 ht_a0 (by omega) (by omega) (by omega) (by omega)) ⟨hg_0, hg_1⟩ ⟨callB_of 1 hts (wl_in mw_271) rfl rfl rfl (htl _ mw_2) (htl _ mw_268) hd_yX12_tell ⟨(Nat.le_of_ble_eq_true rfl), (Nat.le_of_ble_eq_true rfl)⟩, htl _ mw_269, htl _ mw_270⟩ ht_a0 (by decide) tk_no rfl (tk_w.pick [7, 3] rfl) rfl hl.1 rfl (Nat.le_of_ble_eq_true rfl) dX12_dawn_8 ⟨(Nat.le_of_ble_eq_true rfl), (Nat.le_of_ble_eq_true rfl)⟩ (fun v5 H locs hpo hG hS hq9 => ?_)
  obtain ⟨hpo7, hf8, hf9⟩ := hpo
  exact tk_iret (v := v5) hx hb hr rfl hlocks (show tk_f D H a0 12 13 (.int g0) ∧ tk_f D H a0 12 15 (.int g15) from ⟨hf8, hf9⟩) hG hS dX12_dawn_11
set_option maxHeartbeats 4000000 in
set_option maxRecDepth 100000 in
theorem k_X12_undo_x (l : Launch) (D : va_G) (cy : Nat → ClassId) (ld : Nat → Nat) (t : tk_T) (a0 : Nat) (g0 : Int32) (g15 : Int32) (ht_a0 : t a0 = (13, 0, 0)) (hp_0 : 0 ≤ g0.toInt) (hp_1 : g0.toInt ≤ 400) (hp_2 : (-2147483648) ≤ g15.toInt) (hp_3 : g15.toInt ≤ 2147483647) : Met l yX12_undo (wl yX12_undo cX12_undo 1 (some .int)) ({ frames := 6, cells := 0, slots := 0, locals := 350 }) (tp D cy ld t [] [.ref a0] (fun H => tk_f D H a0 12 13 (.int g0) ∧ tk_f D H a0 12 15 (.int g15))) (ti D cy ld t [] (fun r H => tk_f D H a0 12 13 (.int g0) ∧ tk_f D H a0 12 15 (.int g15)) (tk_w t [(2, 0, 0), (20, 0, 0), (10, 0, 0), (13, 0, 0)])) 0 0 (tk_w t [(2, 0, 0), (20, 0, 0), (10, 0, 0), (13, 0, 0)]) := by
  refine tk_met (y := yX12_undo) (cc := cX12_undo) (maxL := 1) (ret := (some .int)) (av := [.ref a0]) _ _ (by decide) (Nat.le_of_ble_eq_true rfl) ?_
  intro p e s m args below meth c hx hb hr hml hts htl hown hlocks hK H locs hH hG hS hB hZ ls hl
  have hown : s.vm.findClass RX12 = some m.cls := hown
  have hl : lv_has ls 1 [(0, .ref a0)] := hl
  obtain ⟨hg_0, hg_1⟩ := hB
  refine lv_aload_n hx hb dX12_undo_0 rfl (lv_at hl 0 rfl) ?_
  refine lv_aload_n hx hb dX12_undo_1 rfl (lv_at hl 0 rfl) ?_
  refine tk_get (ci := 12) (C := RX12) (T := TX12) (N := 17) (sp := (6, 2, 0, 0)) hx hb htl inX12 hown hK hG ht_a0 (by decide) tk_no rfl 4 (by decide) (htl _ mw_26) (fun _ h9 => h9) rfl dX12_undo_2 (fun v9 hf1 hV9 => ?_)
  obtain ⟨b2, rfl, ht_b2⟩ := hV9
  have ht_b2 : t b2 = (2, 0, 0) := ht_b2
  refine tk_Vi (As := []) (rest := [.ref a0]) (ci := 1) ⟨hx, hb, hml, hown, hts⟩ hK hG hZ hS (k_X1_takeBack l D cy ld t b2 ht_b2) trivial ⟨callB_of 0 hts (wl_in mw_1273) rfl rfl rfl (htl _ mw_25) (htl _ mw_1270) hd_yX1_takeBack ⟨(Nat.le_of_ble_eq_true rfl), (Nat.le_of_ble_eq_true rfl)⟩, htl _ mw_1271, htl _ mw_1272⟩ ht_b2 (by decide) tk_no rfl (tk_w.pick [0, 1, 2] rfl) rfl hl.1 rfl (Nat.le_of_ble_eq_true rfl) dX12_undo_5 ⟨(Nat.le_of_ble_eq_true rfl), (Nat.le_of_ble_eq_true rfl)⟩ (fun v3 H locs hpo hG hS hq9 => ?_)
  have hg_0 := hg_0.call hq9 (tk_w.no ht_a0 (by decide))
  have hg_1 := hg_1.call hq9 (tk_w.no ht_a0 (by decide))
  refine tk_Vi (As := [.int v3]) (rest := []) (ci := 12) ⟨hx, hb, hml, hown, hts⟩ hK hG hZ hS (k_X12_tell_x l D cy ld t a0 v3 g0 g15 ht_a0 (by omega) (by omega) (by omega) (by omega)) ⟨hg_0, hg_1⟩ ⟨callB_of 1 hts (wl_in mw_271) rfl rfl rfl (htl _ mw_2) (htl _ mw_268) hd_yX12_tell ⟨(Nat.le_of_ble_eq_true rfl), (Nat.le_of_ble_eq_true rfl)⟩, htl _ mw_269, htl _ mw_270⟩ ht_a0 (by decide) tk_no rfl (tk_w.pick [3, 1] rfl) rfl hl.1 rfl (Nat.le_of_ble_eq_true rfl) dX12_undo_8 ⟨(Nat.le_of_ble_eq_true rfl), (Nat.le_of_ble_eq_true rfl)⟩ (fun v5 H locs hpo hG hS hq9 => ?_)
  obtain ⟨hpo7, hf8, hf9⟩ := hpo
  exact tk_iret (v := v5) hx hb hr rfl hlocks (show tk_f D H a0 12 13 (.int g0) ∧ tk_f D H a0 12 15 (.int g15) from ⟨hf8, hf9⟩) hG hS dX12_undo_11
set_option maxHeartbeats 4000000 in
set_option maxRecDepth 100000 in
theorem k_X2_addSight_x (l : Launch) (D : va_G) (cy : Nat → ClassId) (ld : Nat → Nat) (t : tk_T) (a0 : Nat) (p1 : Int32) (p2 : Int32) (p3 : Int32) (p4 : Int32) (p5 : Int32) (n0 n1 n2 n3 : Int32) (fh fs fk q1 q2 q3 : Nat → Int32) (ht_a0 : t a0 = (3, 0, 0)) (ht_ld70 : t (ld 70) = (32, 8, 0)) (ht_ld80 : t (ld 80) = (33, 10, 0)) (ht_ld90 : t (ld 90) = (34, 10, 0)) (ht_ld100 : t (ld 100) = (35, 10, 0)) (ht_ld110 : t (ld 110) = (36, 10, 0)) (ht_ld120 : t (ld 120) = (37, 10, 0)) (hp_0 : 0 ≤ p1.toInt) (hp_1 : p1.toInt ≤ 9) (hp_2 : 0 ≤ p2.toInt) (hp_3 : p2.toInt ≤ 7) (hp_4 : 0 ≤ p3.toInt) (hp_5 : p3.toInt ≤ 11) (hp_6 : 0 ≤ p4.toInt) (hp_7 : p4.toInt ≤ 1) (hp_8 : 0 ≤ p5.toInt) (hp_9 : p5.toInt ≤ 1) (hp_10 : 0 ≤ n0.toInt) (hp_11 : n0.toInt ≤ 8) (hp_12 : 0 ≤ n1.toInt) (hp_13 : n1.toInt ≤ 10) (hp_14 : 0 ≤ n2.toInt) (hp_15 : n2.toInt ≤ 10) (hp_16 : 0 ≤ n3.toInt) (hp_17 : n3.toInt ≤ 8) : Met l yX2_addSight (wl yX2_addSight cX2_addSight 7 (some .int)) ({ frames := 3, cells := 0, slots := 0, locals := 140 }) (tp D cy ld t [] [.ref a0, .int p1, .int p2, .int p3, .int p4, .int p5] (fun H => jC D ld a0 0 n0 n1 n2 n3 fh fs fk q1 q2 q3 H)) (ti D cy ld t [] (fun r H => (n3.toInt ≤ 7 → (-1) * n3.toInt + r.toInt + (-1) = 0) ∧ (8 ≤ n3.toInt → r.toInt + 5 = 0) ∧ (0 ≤ r.toInt → n3.toInt ≤ 7) ∧ (∃ n3x : Int32, jC D ld a0 0 n0 n1 n2 n3x fh fs fk q1 q2 q3 H ∧ (0 ≤ r.toInt → (-1) * n3.toInt + n3x.toInt + (-1) = 0) ∧ (r.toInt ≤ (-1) → (-1) * n3.toInt + n3x.toInt = 0))) (tk_w t [(24, 0, 0), (3, 0, 0)])) 0 0 (tk_w t [(24, 0, 0), (3, 0, 0)]) := by
  refine tk_met (y := yX2_addSight) (cc := cX2_addSight) (maxL := 7) (ret := (some .int)) (av := [.ref a0, .int p1, .int p2, .int p3, .int p4, .int p5]) _ _ (by decide) (Nat.le_of_ble_eq_true rfl) ?_
  intro p e s m args below meth c hx hb hr hml hts htl hown hlocks hK H locs hH hG hS hB hZ ls hl
  have hown : s.vm.findClass RX2 = some m.cls := hown
  have hl : lv_has ls 7 [(0, .ref a0), (1, .int p1), (2, .int p2), (3, .int p3), (4, .int p4), (5, .int p5)] := hl
  have ⟨hj0_0, hj0_1, hj0_2, hj0_3, hj0_4, hj0_5, hj0_6, hj0_7, hj0_8, hj0_9⟩ := hB
  have hr_p1 := tk_rng p1
  have hr_p2 := tk_rng p2
  have hr_p3 := tk_rng p3
  have hr_p4 := tk_rng p4
  have hr_p5 := tk_rng p5
  refine lv_aload_n hx hb dX2_addSight_0 rfl (lv_at hl 0 rfl) ?_
  refine tk_getk (ci := 2) (C := RX2) (T := TX2) (N := 20) (sp := (0, 0, 8, 0)) hx hb htl inX2 hown hK hG ht_a0 (by decide) tk_no rfl 11 (by decide) (htl _ mw_1489) (fun _ h9 => h9) rfl hj0_3 dX2_addSight_1 ?_
  refine lv_bipush (v := 8) hx hb dX2_addSight_4 (by decide) ?_
  refine lv_icmp_lt (tgt := 12) hx hb dX2_addSight_6 (by decide) (fun c9 => ?_) (fun c9 => ?_)
  · have hc1 : n3.toInt < 8 := (fi_lt rfl (show (8 : Int32).toInt = 8 by decide)).mp c9
    refine lv_aload_n hx hb dX2_addSight_12 rfl (lv_at hl 0 rfl) ?_
    refine tk_getk (ci := 2) (C := RX2) (T := TX2) (N := 20) (sp := (0, 0, 8, 0)) hx hb htl inX2 hown hK hG ht_a0 (by decide) tk_no rfl 11 (by decide) (htl _ mw_1489) (fun _ h9 => h9) rfl hj0_3 dX2_addSight_13 ?_
    refine lv_iconst (v := 5) hx hb dX2_addSight_16 (by decide) ?_
    refine lv_imul hx hb dX2_addSight_17 ?_
    refine tk_mul rfl (show (5 : Int32).toInt = 5 by decide) (by omega) (by omega) (fun v2 h_v2 => ?_)
    refine lv_istore (lv' := [(6, .int v2), (0, .ref a0), (1, .int p1), (2, .int p2), (3, .int p3), (4, .int p4), (5, .int p5)]) hx hb dX2_addSight_18 hl (by decide) rfl (fun ls hl => ?_)
    refine lv_aload_n hx hb dX2_addSight_20 rfl (lv_at hl 1 rfl) ?_
    refine tk_get (ci := 2) (C := RX2) (T := TX2) (N := 20) (sp := (1, 24, 40, 0)) hx hb htl inX2 hown hK hG ht_a0 (by decide) tk_no rfl 12 (by decide) (htl _ mw_68) (fun _ h9 => h9) rfl dX2_addSight_21 (fun v9 hf3 hV9 => ?_)
    obtain ⟨b4, rfl, ht_b4⟩ := hV9
    have ht_b4 : t b4 = (24, 40, 0) := ht_b4
    refine lv_iload hx hb dX2_addSight_24 (lv_at hl 0 rfl) ?_
    refine lv_iload_n hx hb dX2_addSight_26 rfl (lv_at hl 2 rfl) ?_
    refine tk_iast hx hb hK hG hS ht_b4 (by decide) (fun _ => Iff.rfl) tk_no rfl (by omega) (by omega) (show 0 ≤ (p1 : Int32).toInt ∧ (p1 : Int32).toInt ≤ 11 ∧ (v2.toInt % 5 = 0 → (p1 : Int32).toInt ≤ 9) ∧ (v2.toInt % 5 = 1 → (p1 : Int32).toInt ≤ 7) from ⟨by omega, by omega, by omega, by omega⟩) (tk_w.of ht_b4 (by decide) (List.mem_of_getElem? (i := 0) rfl) (Nat.le_refl _) (Nat.le_refl _)) dX2_addSight_27 (fun H locs hG hS hq9 => ?_)
    have hj0_0 := hj0_0.kept (hq9 _ (tk_ne ht_a0 ht_b4 (Or.inl (by decide))))
    have hj0_1 := hj0_1.kept (hq9 _ (tk_ne ht_a0 ht_b4 (Or.inl (by decide))))
    have hj0_2 := hj0_2.kept (hq9 _ (tk_ne ht_a0 ht_b4 (Or.inl (by decide))))
    have hj0_3 := hj0_3.kept (hq9 _ (tk_ne ht_a0 ht_b4 (Or.inl (by decide))))
    have hj0_4 := hj0_4.kept (hq9 _ (tk_ne ht_ld70 ht_b4 (Or.inl (by decide))))
    have hj0_5 := hj0_5.kept (hq9 _ (tk_ne ht_ld80 ht_b4 (Or.inl (by decide))))
    have hj0_6 := hj0_6.kept (hq9 _ (tk_ne ht_ld90 ht_b4 (Or.inl (by decide))))
    have hj0_7 := hj0_7.kept (hq9 _ (tk_ne ht_ld100 ht_b4 (Or.inl (by decide))))
    have hj0_8 := hj0_8.kept (hq9 _ (tk_ne ht_ld110 ht_b4 (Or.inl (by decide))))
    have hj0_9 := hj0_9.kept (hq9 _ (tk_ne ht_ld120 ht_b4 (Or.inl (by decide))))
    refine lv_aload_n hx hb dX2_addSight_28 rfl (lv_at hl 1 rfl) ?_
    refine tk_get (ci := 2) (C := RX2) (T := TX2) (N := 20) (sp := (1, 24, 40, 0)) hx hb htl inX2 hown hK hG ht_a0 (by decide) tk_no rfl 12 (by decide) (htl _ mw_68) (fun _ h9 => h9) rfl dX2_addSight_29 (fun v9 hf6 hV9 => ?_)
    obtain ⟨b7, rfl, ht_b7⟩ := hV9
    have ht_b7 : t b7 = (24, 40, 0) := ht_b7
    refine lv_iload hx hb dX2_addSight_32 (lv_at hl 0 rfl) ?_
    refine lv_iconst (v := 1) hx hb dX2_addSight_34 (by decide) ?_
    refine lv_iadd hx hb dX2_addSight_35 ?_
    refine tk_add rfl (show (1 : Int32).toInt = 1 by decide) (by omega) (by omega) (fun v8 h_v8 => ?_)
    refine lv_iload_n hx hb dX2_addSight_36 rfl (lv_at hl 3 rfl) ?_
    refine tk_iast hx hb hK hG hS ht_b7 (by decide) (fun _ => Iff.rfl) tk_no rfl (by omega) (by omega) (show 0 ≤ (p2 : Int32).toInt ∧ (p2 : Int32).toInt ≤ 11 ∧ (v8.toInt % 5 = 0 → (p2 : Int32).toInt ≤ 9) ∧ (v8.toInt % 5 = 1 → (p2 : Int32).toInt ≤ 7) from ⟨by omega, by omega, by omega, by omega⟩) (tk_w.of ht_b7 (by decide) (List.mem_of_getElem? (i := 0) rfl) (Nat.le_refl _) (Nat.le_refl _)) dX2_addSight_37 (fun H locs hG hS hq9 => ?_)
    have hj0_0 := hj0_0.kept (hq9 _ (tk_ne ht_a0 ht_b7 (Or.inl (by decide))))
    have hj0_1 := hj0_1.kept (hq9 _ (tk_ne ht_a0 ht_b7 (Or.inl (by decide))))
    have hj0_2 := hj0_2.kept (hq9 _ (tk_ne ht_a0 ht_b7 (Or.inl (by decide))))
    have hj0_3 := hj0_3.kept (hq9 _ (tk_ne ht_a0 ht_b7 (Or.inl (by decide))))
    have hj0_4 := hj0_4.kept (hq9 _ (tk_ne ht_ld70 ht_b7 (Or.inl (by decide))))
    have hj0_5 := hj0_5.kept (hq9 _ (tk_ne ht_ld80 ht_b7 (Or.inl (by decide))))
    have hj0_6 := hj0_6.kept (hq9 _ (tk_ne ht_ld90 ht_b7 (Or.inl (by decide))))
    have hj0_7 := hj0_7.kept (hq9 _ (tk_ne ht_ld100 ht_b7 (Or.inl (by decide))))
    have hj0_8 := hj0_8.kept (hq9 _ (tk_ne ht_ld110 ht_b7 (Or.inl (by decide))))
    have hj0_9 := hj0_9.kept (hq9 _ (tk_ne ht_ld120 ht_b7 (Or.inl (by decide))))
    refine lv_aload_n hx hb dX2_addSight_38 rfl (lv_at hl 1 rfl) ?_
    refine tk_get (ci := 2) (C := RX2) (T := TX2) (N := 20) (sp := (1, 24, 40, 0)) hx hb htl inX2 hown hK hG ht_a0 (by decide) tk_no rfl 12 (by decide) (htl _ mw_68) (fun _ h9 => h9) rfl dX2_addSight_39 (fun v9 hf10 hV9 => ?_)
    obtain ⟨b11, rfl, ht_b11⟩ := hV9
    have ht_b11 : t b11 = (24, 40, 0) := ht_b11
    refine lv_iload hx hb dX2_addSight_42 (lv_at hl 0 rfl) ?_
    refine lv_iconst (v := 2) hx hb dX2_addSight_44 (by decide) ?_
    refine lv_iadd hx hb dX2_addSight_45 ?_
    refine tk_add rfl (show (2 : Int32).toInt = 2 by decide) (by omega) (by omega) (fun v12 h_v12 => ?_)
    refine lv_iload_n hx hb dX2_addSight_46 rfl (lv_at hl 4 rfl) ?_
    refine tk_iast hx hb hK hG hS ht_b11 (by decide) (fun _ => Iff.rfl) tk_no rfl (by omega) (by omega) (show 0 ≤ (p3 : Int32).toInt ∧ (p3 : Int32).toInt ≤ 11 ∧ (v12.toInt % 5 = 0 → (p3 : Int32).toInt ≤ 9) ∧ (v12.toInt % 5 = 1 → (p3 : Int32).toInt ≤ 7) from ⟨by omega, by omega, by omega, by omega⟩) (tk_w.of ht_b11 (by decide) (List.mem_of_getElem? (i := 0) rfl) (Nat.le_refl _) (Nat.le_refl _)) dX2_addSight_47 (fun H locs hG hS hq9 => ?_)
    have hj0_0 := hj0_0.kept (hq9 _ (tk_ne ht_a0 ht_b11 (Or.inl (by decide))))
    have hj0_1 := hj0_1.kept (hq9 _ (tk_ne ht_a0 ht_b11 (Or.inl (by decide))))
    have hj0_2 := hj0_2.kept (hq9 _ (tk_ne ht_a0 ht_b11 (Or.inl (by decide))))
    have hj0_3 := hj0_3.kept (hq9 _ (tk_ne ht_a0 ht_b11 (Or.inl (by decide))))
    have hj0_4 := hj0_4.kept (hq9 _ (tk_ne ht_ld70 ht_b11 (Or.inl (by decide))))
    have hj0_5 := hj0_5.kept (hq9 _ (tk_ne ht_ld80 ht_b11 (Or.inl (by decide))))
    have hj0_6 := hj0_6.kept (hq9 _ (tk_ne ht_ld90 ht_b11 (Or.inl (by decide))))
    have hj0_7 := hj0_7.kept (hq9 _ (tk_ne ht_ld100 ht_b11 (Or.inl (by decide))))
    have hj0_8 := hj0_8.kept (hq9 _ (tk_ne ht_ld110 ht_b11 (Or.inl (by decide))))
    have hj0_9 := hj0_9.kept (hq9 _ (tk_ne ht_ld120 ht_b11 (Or.inl (by decide))))
    refine lv_aload_n hx hb dX2_addSight_48 rfl (lv_at hl 1 rfl) ?_
    refine tk_get (ci := 2) (C := RX2) (T := TX2) (N := 20) (sp := (1, 24, 40, 0)) hx hb htl inX2 hown hK hG ht_a0 (by decide) tk_no rfl 12 (by decide) (htl _ mw_68) (fun _ h9 => h9) rfl dX2_addSight_49 (fun v9 hf14 hV9 => ?_)
    obtain ⟨b15, rfl, ht_b15⟩ := hV9
    have ht_b15 : t b15 = (24, 40, 0) := ht_b15
    refine lv_iload hx hb dX2_addSight_52 (lv_at hl 0 rfl) ?_
    refine lv_iconst (v := 3) hx hb dX2_addSight_54 (by decide) ?_
    refine lv_iadd hx hb dX2_addSight_55 ?_
    refine tk_add rfl (show (3 : Int32).toInt = 3 by decide) (by omega) (by omega) (fun v16 h_v16 => ?_)
    refine lv_iload hx hb dX2_addSight_56 (lv_at hl 5 rfl) ?_
    refine tk_iast hx hb hK hG hS ht_b15 (by decide) (fun _ => Iff.rfl) tk_no rfl (by omega) (by omega) (show 0 ≤ (p4 : Int32).toInt ∧ (p4 : Int32).toInt ≤ 11 ∧ (v16.toInt % 5 = 0 → (p4 : Int32).toInt ≤ 9) ∧ (v16.toInt % 5 = 1 → (p4 : Int32).toInt ≤ 7) from ⟨by omega, by omega, by omega, by omega⟩) (tk_w.of ht_b15 (by decide) (List.mem_of_getElem? (i := 0) rfl) (Nat.le_refl _) (Nat.le_refl _)) dX2_addSight_58 (fun H locs hG hS hq9 => ?_)
    have hj0_0 := hj0_0.kept (hq9 _ (tk_ne ht_a0 ht_b15 (Or.inl (by decide))))
    have hj0_1 := hj0_1.kept (hq9 _ (tk_ne ht_a0 ht_b15 (Or.inl (by decide))))
    have hj0_2 := hj0_2.kept (hq9 _ (tk_ne ht_a0 ht_b15 (Or.inl (by decide))))
    have hj0_3 := hj0_3.kept (hq9 _ (tk_ne ht_a0 ht_b15 (Or.inl (by decide))))
    have hj0_4 := hj0_4.kept (hq9 _ (tk_ne ht_ld70 ht_b15 (Or.inl (by decide))))
    have hj0_5 := hj0_5.kept (hq9 _ (tk_ne ht_ld80 ht_b15 (Or.inl (by decide))))
    have hj0_6 := hj0_6.kept (hq9 _ (tk_ne ht_ld90 ht_b15 (Or.inl (by decide))))
    have hj0_7 := hj0_7.kept (hq9 _ (tk_ne ht_ld100 ht_b15 (Or.inl (by decide))))
    have hj0_8 := hj0_8.kept (hq9 _ (tk_ne ht_ld110 ht_b15 (Or.inl (by decide))))
    have hj0_9 := hj0_9.kept (hq9 _ (tk_ne ht_ld120 ht_b15 (Or.inl (by decide))))
    refine lv_aload_n hx hb dX2_addSight_59 rfl (lv_at hl 1 rfl) ?_
    refine tk_get (ci := 2) (C := RX2) (T := TX2) (N := 20) (sp := (1, 24, 40, 0)) hx hb htl inX2 hown hK hG ht_a0 (by decide) tk_no rfl 12 (by decide) (htl _ mw_68) (fun _ h9 => h9) rfl dX2_addSight_60 (fun v9 hf18 hV9 => ?_)
    obtain ⟨b19, rfl, ht_b19⟩ := hV9
    have ht_b19 : t b19 = (24, 40, 0) := ht_b19
    refine lv_iload hx hb dX2_addSight_63 (lv_at hl 0 rfl) ?_
    refine lv_iconst (v := 4) hx hb dX2_addSight_65 (by decide) ?_
    refine lv_iadd hx hb dX2_addSight_66 ?_
    refine tk_add rfl (show (4 : Int32).toInt = 4 by decide) (by omega) (by omega) (fun v20 h_v20 => ?_)
    refine lv_iload hx hb dX2_addSight_67 (lv_at hl 6 rfl) ?_
    refine tk_iast hx hb hK hG hS ht_b19 (by decide) (fun _ => Iff.rfl) tk_no rfl (by omega) (by omega) (show 0 ≤ (p5 : Int32).toInt ∧ (p5 : Int32).toInt ≤ 11 ∧ (v20.toInt % 5 = 0 → (p5 : Int32).toInt ≤ 9) ∧ (v20.toInt % 5 = 1 → (p5 : Int32).toInt ≤ 7) from ⟨by omega, by omega, by omega, by omega⟩) (tk_w.of ht_b19 (by decide) (List.mem_of_getElem? (i := 0) rfl) (Nat.le_refl _) (Nat.le_refl _)) dX2_addSight_69 (fun H locs hG hS hq9 => ?_)
    have hj0_0 := hj0_0.kept (hq9 _ (tk_ne ht_a0 ht_b19 (Or.inl (by decide))))
    have hj0_1 := hj0_1.kept (hq9 _ (tk_ne ht_a0 ht_b19 (Or.inl (by decide))))
    have hj0_2 := hj0_2.kept (hq9 _ (tk_ne ht_a0 ht_b19 (Or.inl (by decide))))
    have hj0_3 := hj0_3.kept (hq9 _ (tk_ne ht_a0 ht_b19 (Or.inl (by decide))))
    have hj0_4 := hj0_4.kept (hq9 _ (tk_ne ht_ld70 ht_b19 (Or.inl (by decide))))
    have hj0_5 := hj0_5.kept (hq9 _ (tk_ne ht_ld80 ht_b19 (Or.inl (by decide))))
    have hj0_6 := hj0_6.kept (hq9 _ (tk_ne ht_ld90 ht_b19 (Or.inl (by decide))))
    have hj0_7 := hj0_7.kept (hq9 _ (tk_ne ht_ld100 ht_b19 (Or.inl (by decide))))
    have hj0_8 := hj0_8.kept (hq9 _ (tk_ne ht_ld110 ht_b19 (Or.inl (by decide))))
    have hj0_9 := hj0_9.kept (hq9 _ (tk_ne ht_ld120 ht_b19 (Or.inl (by decide))))
    refine lv_aload_n hx hb dX2_addSight_70 rfl (lv_at hl 1 rfl) ?_
    refine lv_dup hx hb dX2_addSight_71 rfl ?_
    refine tk_getk (ci := 2) (C := RX2) (T := TX2) (N := 20) (sp := (0, 0, 8, 0)) hx hb htl inX2 hown hK hG ht_a0 (by decide) tk_no rfl 11 (by decide) (htl _ mw_1489) (fun _ h9 => h9) rfl hj0_3 dX2_addSight_72 ?_
    refine lv_iconst (v := 1) hx hb dX2_addSight_75 (by decide) ?_
    refine lv_iadd hx hb dX2_addSight_76 ?_
    refine tk_add rfl (show (1 : Int32).toInt = 1 by decide) (by omega) (by omega) (fun v22 h_v22 => ?_)
    refine tk_put (ci := 2) (v := .int v22) (ty := .int) (C := RX2) (T := TX2) (N := 20) (sp := (0, 0, 8, 0)) hx hb htl inX2 tyX2 tyX2_ok nmX2 hown hK hG hS ht_a0 (by decide) tk_no rfl 11 (by decide) (htl _ mw_1489) (fun _ h9 => h9) rfl (tyX2_ok 11 (by decide)) rfl rfl rfl (tk_V0 (by omega) (by omega)) (fun _ h => h) (tk_w.of ht_a0 (by decide) (List.mem_of_getElem? (i := 1) rfl) (Nat.le_refl _) (Nat.le_refl _)) dX2_addSight_77 (fun H locs hG hS hf23 hq9 hj9 => ?_)
    have hj0_0 := hj9 0 _ (by decide) (by decide) hj0_0
    have hj0_1 := hj9 4 _ (by decide) (by decide) hj0_1
    have hj0_2 := hj9 7 _ (by decide) (by decide) hj0_2
    have hj0_4 := hj0_4.kept (hq9 _ (tk_ne ht_ld70 ht_a0 (Or.inl (by decide))))
    have hj0_5 := hj0_5.kept (hq9 _ (tk_ne ht_ld80 ht_a0 (Or.inl (by decide))))
    have hj0_6 := hj0_6.kept (hq9 _ (tk_ne ht_ld90 ht_a0 (Or.inl (by decide))))
    have hj0_7 := hj0_7.kept (hq9 _ (tk_ne ht_ld100 ht_a0 (Or.inl (by decide))))
    have hj0_8 := hj0_8.kept (hq9 _ (tk_ne ht_ld110 ht_a0 (Or.inl (by decide))))
    have hj0_9 := hj0_9.kept (hq9 _ (tk_ne ht_ld120 ht_a0 (Or.inl (by decide))))
    refine lv_aload_n hx hb dX2_addSight_80 rfl (lv_at hl 1 rfl) ?_
    refine tk_getk (ci := 2) (C := RX2) (T := TX2) (N := 20) (sp := (0, 0, 8, 0)) hx hb htl inX2 hown hK hG ht_a0 (by decide) tk_no rfl 11 (by decide) (htl _ mw_1489) (fun _ h9 => h9) rfl hf23 dX2_addSight_81 ?_
    exact tk_iret (v := v22) hx hb hr rfl hlocks (show (n3.toInt ≤ 7 → (-1) * n3.toInt + v22.toInt + (-1) = 0) ∧ (8 ≤ n3.toInt → v22.toInt + 5 = 0) ∧ (0 ≤ v22.toInt → n3.toInt ≤ 7) ∧ (∃ n3x : Int32, jC D ld a0 0 n0 n1 n2 n3x fh fs fk q1 q2 q3 H ∧ (0 ≤ v22.toInt → (-1) * n3.toInt + n3x.toInt + (-1) = 0) ∧ (v22.toInt ≤ (-1) → (-1) * n3.toInt + n3x.toInt = 0)) from ⟨(fun _ => by omega), (fun _ => by omega), (fun _ => by omega), ⟨v22, ⟨hj0_0, hj0_1, hj0_2, hf23, hj0_4, hj0_5, hj0_6, hj0_7, hj0_8, hj0_9⟩, (fun _ => by omega), (fun _ => by omega)⟩⟩) hG hS dX2_addSight_84
  · have hc1 : ¬ (n3.toInt < 8) := fun h9 => c9 ((fi_lt rfl (show (8 : Int32).toInt = 8 by decide)).mpr h9)
    refine lv_bipush (v := (-5)) hx hb dX2_addSight_9 (by decide) ?_
    have hk_m5 : ((-5) : Int32).toInt = (-5) := by decide
    exact tk_iret (v := (-5)) hx hb hr rfl hlocks (show (n3.toInt ≤ 7 → (-1) * n3.toInt + ((-5) : Int32).toInt + (-1) = 0) ∧ (8 ≤ n3.toInt → ((-5) : Int32).toInt + 5 = 0) ∧ (0 ≤ ((-5) : Int32).toInt → n3.toInt ≤ 7) ∧ (∃ n3x : Int32, jC D ld a0 0 n0 n1 n2 n3x fh fs fk q1 q2 q3 H ∧ (0 ≤ ((-5) : Int32).toInt → (-1) * n3.toInt + n3x.toInt + (-1) = 0) ∧ (((-5) : Int32).toInt ≤ (-1) → (-1) * n3.toInt + n3x.toInt = 0)) from ⟨(fun _ => by omega), (fun _ => by omega), (fun _ => by omega), ⟨n3, ⟨hj0_0, hj0_1, hj0_2, hj0_3, hj0_4, hj0_5, hj0_6, hj0_7, hj0_8, hj0_9⟩, (fun _ => by omega), (fun _ => by omega)⟩⟩) hG hS dX2_addSight_11
set_option maxHeartbeats 4000000 in
set_option maxRecDepth 100000 in
theorem k_X12_sight_x (l : Launch) (D : va_G) (cy : Nat → ClassId) (ld : Nat → Nat) (t : tk_T) (a0 : Nat) (p1 : Int32) (p2 : Int32) (p3 : Int32) (p4 : Int32) (p5 : Int32) (g0 : Int32) (g15 : Int32) (n0 n1 n2 n3 : Int32) (fh fs fk q1 q2 q3 : Nat → Int32) (ht_a0 : t a0 = (13, 0, 0)) (ht_ld20 : t (ld 20) = (3, 0, 0)) (ht_ld70 : t (ld 70) = (32, 8, 0)) (ht_ld80 : t (ld 80) = (33, 10, 0)) (ht_ld90 : t (ld 90) = (34, 10, 0)) (ht_ld100 : t (ld 100) = (35, 10, 0)) (ht_ld110 : t (ld 110) = (36, 10, 0)) (ht_ld120 : t (ld 120) = (37, 10, 0)) (hp_0 : 0 ≤ n0.toInt) (hp_1 : n0.toInt ≤ 8) (hp_2 : 0 ≤ n1.toInt) (hp_3 : n1.toInt ≤ 10) (hp_4 : 0 ≤ n2.toInt) (hp_5 : n2.toInt ≤ 10) (hp_6 : 0 ≤ n3.toInt) (hp_7 : n3.toInt ≤ 8) (hp_8 : 0 ≤ g0.toInt) (hp_9 : g0.toInt ≤ 400) (hp_10 : (-2147483648) ≤ g15.toInt) (hp_11 : g15.toInt ≤ 2147483647) : Met l yX12_sight (wl yX12_sight cX12_sight 6 (some .int)) ({ frames := 6, cells := 0, slots := 0, locals := 350 }) (tp D cy ld t [] [.ref a0, .int p1, .int p2, .int p3, .int p4, .int p5] (fun H => tk_f D H a0 12 13 (.int g0) ∧ tk_f D H a0 12 15 (.int g15) ∧ jC D ld (ld 20) 0 n0 n1 n2 n3 fh fs fk q1 q2 q3 H)) (ti D cy ld t [] (fun r H => (p3.toInt ≤ (-1) → r.toInt + 1 = 0) ∧ (12 ≤ p3.toInt → r.toInt + 1 = 0) ∧ (p4.toInt ≤ (-1) → r.toInt + 1 = 0) ∧ (2 ≤ p4.toInt → r.toInt + 1 = 0) ∧ (p5.toInt ≤ (-1) → r.toInt + 1 = 0) ∧ (2 ≤ p5.toInt → r.toInt + 1 = 0) ∧ (0 ≤ p3.toInt → p3.toInt ≤ 11 → 0 ≤ p4.toInt → p4.toInt ≤ 1 → 0 ≤ p5.toInt → p5.toInt ≤ 1 → p1.toInt ≤ (-1) → r.toInt + 2 = 0) ∧ (0 ≤ p3.toInt → p3.toInt ≤ 11 → 0 ≤ p4.toInt → p4.toInt ≤ 1 → 0 ≤ p5.toInt → p5.toInt ≤ 1 → 0 ≤ (-1) * n1.toInt + p1.toInt → r.toInt + 2 = 0) ∧ (0 ≤ p3.toInt → p3.toInt ≤ 11 → 0 ≤ p4.toInt → p4.toInt ≤ 1 → 0 ≤ p5.toInt → p5.toInt ≤ 1 → p2.toInt ≤ (-1) → r.toInt + 2 = 0) ∧ (0 ≤ p3.toInt → p3.toInt ≤ 11 → 0 ≤ p4.toInt → p4.toInt ≤ 1 → 0 ≤ p5.toInt → p5.toInt ≤ 1 → 0 ≤ (-1) * n0.toInt + p2.toInt → r.toInt + 2 = 0) ∧ (0 ≤ p3.toInt → p3.toInt ≤ 11 → 0 ≤ p4.toInt → p4.toInt ≤ 1 → 0 ≤ p5.toInt → p5.toInt ≤ 1 → 0 ≤ p1.toInt → 0 ≤ n1.toInt + (-1) * p1.toInt + (-1) → 0 ≤ p2.toInt → 0 ≤ n0.toInt + (-1) * p2.toInt + (-1) → n3.toInt ≤ 7 → (-1) * n3.toInt + r.toInt + (-1) = 0) ∧ (0 ≤ p3.toInt → p3.toInt ≤ 11 → 0 ≤ p4.toInt → p4.toInt ≤ 1 → 0 ≤ p5.toInt → p5.toInt ≤ 1 → 0 ≤ p1.toInt → 0 ≤ n1.toInt + (-1) * p1.toInt + (-1) → 0 ≤ p2.toInt → 0 ≤ n0.toInt + (-1) * p2.toInt + (-1) → 8 ≤ n3.toInt → r.toInt + 5 = 0) ∧ (0 ≤ r.toInt → n3.toInt ≤ 7) ∧ tk_f D H a0 12 13 (.int g0) ∧ tk_f D H a0 12 15 (.int g15) ∧ (∃ n3x : Int32, jC D ld (ld 20) 0 n0 n1 n2 n3x fh fs fk q1 q2 q3 H ∧ (0 ≤ r.toInt → (-1) * n3.toInt + n3x.toInt + (-1) = 0) ∧ (r.toInt ≤ (-1) → (-1) * n3.toInt + n3x.toInt = 0))) (tk_w t [(13, 0, 0), (20, 0, 0), (24, 0, 0), (3, 0, 0)])) 0 0 (tk_w t [(13, 0, 0), (20, 0, 0), (24, 0, 0), (3, 0, 0)]) := by
  refine tk_met (y := yX12_sight) (cc := cX12_sight) (maxL := 6) (ret := (some .int)) (av := [.ref a0, .int p1, .int p2, .int p3, .int p4, .int p5]) _ _ (by decide) (Nat.le_of_ble_eq_true rfl) ?_
  intro p e s m args below meth c hx hb hr hml hts htl hown hlocks hK H locs hH hG hS hB hZ ls hl
  have hown : s.vm.findClass RX12 = some m.cls := hown
  have hl : lv_has ls 6 [(0, .ref a0), (1, .int p1), (2, .int p2), (3, .int p3), (4, .int p4), (5, .int p5)] := hl
  obtain ⟨hg_0, hg_1, ⟨hj0_0, hj0_1, hj0_2, hj0_3, hj0_4, hj0_5, hj0_6, hj0_7, hj0_8, hj0_9⟩⟩ := hB
  have hr_p1 := tk_rng p1
  have hr_p2 := tk_rng p2
  have hr_p3 := tk_rng p3
  have hr_p4 := tk_rng p4
  have hr_p5 := tk_rng p5
  refine lv_iload_n hx hb dX12_sight_0 rfl (lv_at hl 3 rfl) ?_
  refine lv_iconst (v := 0) hx hb dX12_sight_1 (by decide) ?_
  refine lv_bipush (v := 11) hx hb dX12_sight_2 (by decide) ?_
  have hk_0 : (0 : Int32).toInt = 0 := by decide
  have hk_11 : (11 : Int32).toInt = 11 := by decide
  refine tk_Si (As := [.int p3, .int 0, .int 11]) (rest := []) ⟨hx, hb, hml, hown, hts⟩ hK hG hZ hS (k_X12_within_x l D cy ld t _ p3 0 11) trivial ⟨callB_of 3 hts (wl_in mw_262) rfl rfl rfl (htl _ mw_2) (htl _ mw_277) hd_yX12_within ⟨(Nat.le_of_ble_eq_true rfl), (Nat.le_of_ble_eq_true rfl)⟩, htl _ mw_261⟩ (tk_w.pick [] rfl) rfl hl.1 rfl (Nat.le_of_ble_eq_true rfl) dX12_sight_4 ⟨(Nat.le_of_ble_eq_true rfl), (Nat.le_of_ble_eq_true rfl)⟩ (fun v1 H locs hpo hG hS hq9 => ?_)
  have hg_0 := hg_0.call hq9 tk_w.nil
  have hg_1 := hg_1.call hq9 tk_w.nil
  have hj0_0 := hj0_0.call hq9 tk_w.nil
  have hj0_1 := hj0_1.call hq9 tk_w.nil
  have hj0_2 := hj0_2.call hq9 tk_w.nil
  have hj0_3 := hj0_3.call hq9 tk_w.nil
  have hj0_4 := hj0_4.call hq9 tk_w.nil
  have hj0_5 := hj0_5.call hq9 tk_w.nil
  have hj0_6 := hj0_6.call hq9 tk_w.nil
  have hj0_7 := hj0_7.call hq9 tk_w.nil
  have hj0_8 := hj0_8.call hq9 tk_w.nil
  have hj0_9 := hj0_9.call hq9 tk_w.nil
  obtain ⟨hpo3, hpo4, hpo5, hpo6, hpo7, hpo8⟩ := hpo
  refine lv_if_eq (tgt := 30) hx hb dX12_sight_7 (by decide) (fun c9 => ?_) (fun c9 => ?_)
  · have hc9 : v1.toInt = 0 := (fi_eq rfl (show (0 : Int32).toInt = 0 by decide)).mp c9
    refine lv_aload_n hx hb dX12_sight_30 rfl (lv_at hl 0 rfl) ?_
    refine lv_iconst (v := (-1)) hx hb dX12_sight_31 (by decide) ?_
    have hk_m1 : ((-1) : Int32).toInt = (-1) := by decide
    refine tk_Vi (As := [.int (-1)]) (rest := []) (ci := 12) ⟨hx, hb, hml, hown, hts⟩ hK hG hZ hS (k_X12_refuse_x l D cy ld t a0 (-1) g0 g15 ht_a0 (by omega) (by omega) (by omega) (by omega)) ⟨hg_0, hg_1⟩ ⟨callB_of 1 hts (wl_in mw_275) rfl rfl rfl (htl _ mw_2) (htl _ mw_272) hd_yX12_refuse ⟨(Nat.le_of_ble_eq_true rfl), (Nat.le_of_ble_eq_true rfl)⟩, htl _ mw_273, htl _ mw_274⟩ ht_a0 (by decide) tk_no rfl (tk_w.pick [0, 1] rfl) rfl hl.1 rfl (Nat.le_of_ble_eq_true rfl) dX12_sight_32 ⟨(Nat.le_of_ble_eq_true rfl), (Nat.le_of_ble_eq_true rfl)⟩ (fun v10 H locs hpo hG hS hq9 => ?_)
    have hj0_0 := hj0_0.call hq9 (tk_w.no ht_ld20 (by decide))
    have hj0_1 := hj0_1.call hq9 (tk_w.no ht_ld20 (by decide))
    have hj0_2 := hj0_2.call hq9 (tk_w.no ht_ld20 (by decide))
    have hj0_3 := hj0_3.call hq9 (tk_w.no ht_ld20 (by decide))
    have hj0_4 := hj0_4.call hq9 (tk_w.no ht_ld70 (by decide))
    have hj0_5 := hj0_5.call hq9 (tk_w.no ht_ld80 (by decide))
    have hj0_6 := hj0_6.call hq9 (tk_w.no ht_ld90 (by decide))
    have hj0_7 := hj0_7.call hq9 (tk_w.no ht_ld100 (by decide))
    have hj0_8 := hj0_8.call hq9 (tk_w.no ht_ld110 (by decide))
    have hj0_9 := hj0_9.call hq9 (tk_w.no ht_ld120 (by decide))
    obtain ⟨hpo12, hf13, hf14⟩ := hpo
    exact tk_iret (v := v10) hx hb hr rfl hlocks (show (p3.toInt ≤ (-1) → v10.toInt + 1 = 0) ∧ (12 ≤ p3.toInt → v10.toInt + 1 = 0) ∧ (p4.toInt ≤ (-1) → v10.toInt + 1 = 0) ∧ (2 ≤ p4.toInt → v10.toInt + 1 = 0) ∧ (p5.toInt ≤ (-1) → v10.toInt + 1 = 0) ∧ (2 ≤ p5.toInt → v10.toInt + 1 = 0) ∧ (0 ≤ p3.toInt → p3.toInt ≤ 11 → 0 ≤ p4.toInt → p4.toInt ≤ 1 → 0 ≤ p5.toInt → p5.toInt ≤ 1 → p1.toInt ≤ (-1) → v10.toInt + 2 = 0) ∧ (0 ≤ p3.toInt → p3.toInt ≤ 11 → 0 ≤ p4.toInt → p4.toInt ≤ 1 → 0 ≤ p5.toInt → p5.toInt ≤ 1 → 0 ≤ (-1) * n1.toInt + p1.toInt → v10.toInt + 2 = 0) ∧ (0 ≤ p3.toInt → p3.toInt ≤ 11 → 0 ≤ p4.toInt → p4.toInt ≤ 1 → 0 ≤ p5.toInt → p5.toInt ≤ 1 → p2.toInt ≤ (-1) → v10.toInt + 2 = 0) ∧ (0 ≤ p3.toInt → p3.toInt ≤ 11 → 0 ≤ p4.toInt → p4.toInt ≤ 1 → 0 ≤ p5.toInt → p5.toInt ≤ 1 → 0 ≤ (-1) * n0.toInt + p2.toInt → v10.toInt + 2 = 0) ∧ (0 ≤ p3.toInt → p3.toInt ≤ 11 → 0 ≤ p4.toInt → p4.toInt ≤ 1 → 0 ≤ p5.toInt → p5.toInt ≤ 1 → 0 ≤ p1.toInt → 0 ≤ n1.toInt + (-1) * p1.toInt + (-1) → 0 ≤ p2.toInt → 0 ≤ n0.toInt + (-1) * p2.toInt + (-1) → n3.toInt ≤ 7 → (-1) * n3.toInt + v10.toInt + (-1) = 0) ∧ (0 ≤ p3.toInt → p3.toInt ≤ 11 → 0 ≤ p4.toInt → p4.toInt ≤ 1 → 0 ≤ p5.toInt → p5.toInt ≤ 1 → 0 ≤ p1.toInt → 0 ≤ n1.toInt + (-1) * p1.toInt + (-1) → 0 ≤ p2.toInt → 0 ≤ n0.toInt + (-1) * p2.toInt + (-1) → 8 ≤ n3.toInt → v10.toInt + 5 = 0) ∧ (0 ≤ v10.toInt → n3.toInt ≤ 7) ∧ tk_f D H a0 12 13 (.int g0) ∧ tk_f D H a0 12 15 (.int g15) ∧ (∃ n3x : Int32, jC D ld (ld 20) 0 n0 n1 n2 n3x fh fs fk q1 q2 q3 H ∧ (0 ≤ v10.toInt → (-1) * n3.toInt + n3x.toInt + (-1) = 0) ∧ (v10.toInt ≤ (-1) → (-1) * n3.toInt + n3x.toInt = 0)) from ⟨(fun _ => by omega), (fun _ => by omega), (fun _ => by omega), (fun _ => by omega), (fun _ => by omega), (fun _ => by omega), (fun _ _ _ _ _ _ _ => by omega), (fun _ _ _ _ _ _ _ => by omega), (fun _ _ _ _ _ _ _ => by omega), (fun _ _ _ _ _ _ _ => by omega), (fun _ _ _ _ _ _ _ _ _ _ _ => by omega), (fun _ _ _ _ _ _ _ _ _ _ _ => by omega), (fun _ => by omega), hf13, hf14, ⟨n3, ⟨hj0_0, hj0_1, hj0_2, hj0_3, hj0_4, hj0_5, hj0_6, hj0_7, hj0_8, hj0_9⟩, (fun _ => by omega), (fun _ => by omega)⟩⟩) hG hS dX12_sight_35
  · have hc9 : ¬ (v1.toInt = 0) := fun h9 => c9 ((fi_eq rfl (show (0 : Int32).toInt = 0 by decide)).mpr h9)
    refine lv_iload hx hb dX12_sight_10 (lv_at hl 4 rfl) ?_
    refine lv_iconst (v := 0) hx hb dX12_sight_12 (by decide) ?_
    refine lv_iconst (v := 1) hx hb dX12_sight_13 (by decide) ?_
    have hk_0 : (0 : Int32).toInt = 0 := by decide
    have hk_1 : (1 : Int32).toInt = 1 := by decide
    refine tk_Si (As := [.int p4, .int 0, .int 1]) (rest := []) ⟨hx, hb, hml, hown, hts⟩ hK hG hZ hS (k_X12_within_x l D cy ld t _ p4 0 1) trivial ⟨callB_of 3 hts (wl_in mw_262) rfl rfl rfl (htl _ mw_2) (htl _ mw_277) hd_yX12_within ⟨(Nat.le_of_ble_eq_true rfl), (Nat.le_of_ble_eq_true rfl)⟩, htl _ mw_261⟩ (tk_w.pick [] rfl) rfl hl.1 rfl (Nat.le_of_ble_eq_true rfl) dX12_sight_14 ⟨(Nat.le_of_ble_eq_true rfl), (Nat.le_of_ble_eq_true rfl)⟩ (fun v15 H locs hpo hG hS hq9 => ?_)
    have hg_0 := hg_0.call hq9 tk_w.nil
    have hg_1 := hg_1.call hq9 tk_w.nil
    have hj0_0 := hj0_0.call hq9 tk_w.nil
    have hj0_1 := hj0_1.call hq9 tk_w.nil
    have hj0_2 := hj0_2.call hq9 tk_w.nil
    have hj0_3 := hj0_3.call hq9 tk_w.nil
    have hj0_4 := hj0_4.call hq9 tk_w.nil
    have hj0_5 := hj0_5.call hq9 tk_w.nil
    have hj0_6 := hj0_6.call hq9 tk_w.nil
    have hj0_7 := hj0_7.call hq9 tk_w.nil
    have hj0_8 := hj0_8.call hq9 tk_w.nil
    have hj0_9 := hj0_9.call hq9 tk_w.nil
    obtain ⟨hpo17, hpo18, hpo19, hpo20, hpo21, hpo22⟩ := hpo
    refine lv_if_eq (tgt := 30) hx hb dX12_sight_17 (by decide) (fun c9 => ?_) (fun c9 => ?_)
    · have hc23 : v15.toInt = 0 := (fi_eq rfl (show (0 : Int32).toInt = 0 by decide)).mp c9
      refine lv_aload_n hx hb dX12_sight_30 rfl (lv_at hl 0 rfl) ?_
      refine lv_iconst (v := (-1)) hx hb dX12_sight_31 (by decide) ?_
      have hk_m1 : ((-1) : Int32).toInt = (-1) := by decide
      refine tk_Vi (As := [.int (-1)]) (rest := []) (ci := 12) ⟨hx, hb, hml, hown, hts⟩ hK hG hZ hS (k_X12_refuse_x l D cy ld t a0 (-1) g0 g15 ht_a0 (by omega) (by omega) (by omega) (by omega)) ⟨hg_0, hg_1⟩ ⟨callB_of 1 hts (wl_in mw_275) rfl rfl rfl (htl _ mw_2) (htl _ mw_272) hd_yX12_refuse ⟨(Nat.le_of_ble_eq_true rfl), (Nat.le_of_ble_eq_true rfl)⟩, htl _ mw_273, htl _ mw_274⟩ ht_a0 (by decide) tk_no rfl (tk_w.pick [0, 1] rfl) rfl hl.1 rfl (Nat.le_of_ble_eq_true rfl) dX12_sight_32 ⟨(Nat.le_of_ble_eq_true rfl), (Nat.le_of_ble_eq_true rfl)⟩ (fun v24 H locs hpo hG hS hq9 => ?_)
      have hj0_0 := hj0_0.call hq9 (tk_w.no ht_ld20 (by decide))
      have hj0_1 := hj0_1.call hq9 (tk_w.no ht_ld20 (by decide))
      have hj0_2 := hj0_2.call hq9 (tk_w.no ht_ld20 (by decide))
      have hj0_3 := hj0_3.call hq9 (tk_w.no ht_ld20 (by decide))
      have hj0_4 := hj0_4.call hq9 (tk_w.no ht_ld70 (by decide))
      have hj0_5 := hj0_5.call hq9 (tk_w.no ht_ld80 (by decide))
      have hj0_6 := hj0_6.call hq9 (tk_w.no ht_ld90 (by decide))
      have hj0_7 := hj0_7.call hq9 (tk_w.no ht_ld100 (by decide))
      have hj0_8 := hj0_8.call hq9 (tk_w.no ht_ld110 (by decide))
      have hj0_9 := hj0_9.call hq9 (tk_w.no ht_ld120 (by decide))
      obtain ⟨hpo26, hf27, hf28⟩ := hpo
      exact tk_iret (v := v24) hx hb hr rfl hlocks (show (p3.toInt ≤ (-1) → v24.toInt + 1 = 0) ∧ (12 ≤ p3.toInt → v24.toInt + 1 = 0) ∧ (p4.toInt ≤ (-1) → v24.toInt + 1 = 0) ∧ (2 ≤ p4.toInt → v24.toInt + 1 = 0) ∧ (p5.toInt ≤ (-1) → v24.toInt + 1 = 0) ∧ (2 ≤ p5.toInt → v24.toInt + 1 = 0) ∧ (0 ≤ p3.toInt → p3.toInt ≤ 11 → 0 ≤ p4.toInt → p4.toInt ≤ 1 → 0 ≤ p5.toInt → p5.toInt ≤ 1 → p1.toInt ≤ (-1) → v24.toInt + 2 = 0) ∧ (0 ≤ p3.toInt → p3.toInt ≤ 11 → 0 ≤ p4.toInt → p4.toInt ≤ 1 → 0 ≤ p5.toInt → p5.toInt ≤ 1 → 0 ≤ (-1) * n1.toInt + p1.toInt → v24.toInt + 2 = 0) ∧ (0 ≤ p3.toInt → p3.toInt ≤ 11 → 0 ≤ p4.toInt → p4.toInt ≤ 1 → 0 ≤ p5.toInt → p5.toInt ≤ 1 → p2.toInt ≤ (-1) → v24.toInt + 2 = 0) ∧ (0 ≤ p3.toInt → p3.toInt ≤ 11 → 0 ≤ p4.toInt → p4.toInt ≤ 1 → 0 ≤ p5.toInt → p5.toInt ≤ 1 → 0 ≤ (-1) * n0.toInt + p2.toInt → v24.toInt + 2 = 0) ∧ (0 ≤ p3.toInt → p3.toInt ≤ 11 → 0 ≤ p4.toInt → p4.toInt ≤ 1 → 0 ≤ p5.toInt → p5.toInt ≤ 1 → 0 ≤ p1.toInt → 0 ≤ n1.toInt + (-1) * p1.toInt + (-1) → 0 ≤ p2.toInt → 0 ≤ n0.toInt + (-1) * p2.toInt + (-1) → n3.toInt ≤ 7 → (-1) * n3.toInt + v24.toInt + (-1) = 0) ∧ (0 ≤ p3.toInt → p3.toInt ≤ 11 → 0 ≤ p4.toInt → p4.toInt ≤ 1 → 0 ≤ p5.toInt → p5.toInt ≤ 1 → 0 ≤ p1.toInt → 0 ≤ n1.toInt + (-1) * p1.toInt + (-1) → 0 ≤ p2.toInt → 0 ≤ n0.toInt + (-1) * p2.toInt + (-1) → 8 ≤ n3.toInt → v24.toInt + 5 = 0) ∧ (0 ≤ v24.toInt → n3.toInt ≤ 7) ∧ tk_f D H a0 12 13 (.int g0) ∧ tk_f D H a0 12 15 (.int g15) ∧ (∃ n3x : Int32, jC D ld (ld 20) 0 n0 n1 n2 n3x fh fs fk q1 q2 q3 H ∧ (0 ≤ v24.toInt → (-1) * n3.toInt + n3x.toInt + (-1) = 0) ∧ (v24.toInt ≤ (-1) → (-1) * n3.toInt + n3x.toInt = 0)) from ⟨(fun _ => by omega), (fun _ => by omega), (fun _ => by omega), (fun _ => by omega), (fun _ => by omega), (fun _ => by omega), (fun _ _ _ _ _ _ _ => by omega), (fun _ _ _ _ _ _ _ => by omega), (fun _ _ _ _ _ _ _ => by omega), (fun _ _ _ _ _ _ _ => by omega), (fun _ _ _ _ _ _ _ _ _ _ _ => by omega), (fun _ _ _ _ _ _ _ _ _ _ _ => by omega), (fun _ => by omega), hf27, hf28, ⟨n3, ⟨hj0_0, hj0_1, hj0_2, hj0_3, hj0_4, hj0_5, hj0_6, hj0_7, hj0_8, hj0_9⟩, (fun _ => by omega), (fun _ => by omega)⟩⟩) hG hS dX12_sight_35
    · have hc23 : ¬ (v15.toInt = 0) := fun h9 => c9 ((fi_eq rfl (show (0 : Int32).toInt = 0 by decide)).mpr h9)
      refine lv_iload hx hb dX12_sight_20 (lv_at hl 5 rfl) ?_
      refine lv_iconst (v := 0) hx hb dX12_sight_22 (by decide) ?_
      refine lv_iconst (v := 1) hx hb dX12_sight_23 (by decide) ?_
      have hk_0 : (0 : Int32).toInt = 0 := by decide
      have hk_1 : (1 : Int32).toInt = 1 := by decide
      refine tk_Si (As := [.int p5, .int 0, .int 1]) (rest := []) ⟨hx, hb, hml, hown, hts⟩ hK hG hZ hS (k_X12_within_x l D cy ld t _ p5 0 1) trivial ⟨callB_of 3 hts (wl_in mw_262) rfl rfl rfl (htl _ mw_2) (htl _ mw_277) hd_yX12_within ⟨(Nat.le_of_ble_eq_true rfl), (Nat.le_of_ble_eq_true rfl)⟩, htl _ mw_261⟩ (tk_w.pick [] rfl) rfl hl.1 rfl (Nat.le_of_ble_eq_true rfl) dX12_sight_24 ⟨(Nat.le_of_ble_eq_true rfl), (Nat.le_of_ble_eq_true rfl)⟩ (fun v29 H locs hpo hG hS hq9 => ?_)
      have hg_0 := hg_0.call hq9 tk_w.nil
      have hg_1 := hg_1.call hq9 tk_w.nil
      have hj0_0 := hj0_0.call hq9 tk_w.nil
      have hj0_1 := hj0_1.call hq9 tk_w.nil
      have hj0_2 := hj0_2.call hq9 tk_w.nil
      have hj0_3 := hj0_3.call hq9 tk_w.nil
      have hj0_4 := hj0_4.call hq9 tk_w.nil
      have hj0_5 := hj0_5.call hq9 tk_w.nil
      have hj0_6 := hj0_6.call hq9 tk_w.nil
      have hj0_7 := hj0_7.call hq9 tk_w.nil
      have hj0_8 := hj0_8.call hq9 tk_w.nil
      have hj0_9 := hj0_9.call hq9 tk_w.nil
      obtain ⟨hpo31, hpo32, hpo33, hpo34, hpo35, hpo36⟩ := hpo
      refine lv_if_ne (tgt := 36) hx hb dX12_sight_27 (by decide) (fun c9 => ?_) (fun c9 => ?_)
      · have hc37 : ¬ (v29.toInt = 0) := fun h9 => c9 ((fi_eq rfl (show (0 : Int32).toInt = 0 by decide)).mpr h9)
        refine lv_aload_n hx hb dX12_sight_36 rfl (lv_at hl 0 rfl) ?_
        refine tk_get (ci := 12) (C := RX12) (T := TX12) (N := 17) (sp := (8, 20, 3, 0)) hx hb htl inX12 hown hK hG ht_a0 (by decide) tk_no rfl 0 (by decide) (htl _ mw_15) (fun _ h9 => h9) rfl dX12_sight_37 (fun v9 hf38 hV9 => ?_)
        obtain ⟨rfl, ht_ld20⟩ := hV9
        have ht_ld20 : t (ld 20) = (3, 0, 0) := ht_ld20
        refine fx_top (v := .ref (ld 20)) rfl ?_
        refine lv_iload_n hx hb dX12_sight_40 rfl (lv_at hl 1 rfl) ?_
        refine tk_Vi (As := [.int p1]) (rest := []) (ci := 2) ⟨hx, hb, hml, hown, hts⟩ hK hG hZ hS (k_X2_isVerse_x_x l D cy ld t (ld 20) p1 n1 ht_ld20 (by omega) (by omega)) hj0_1 ⟨callB_of 1 hts (wl_in mw_352) rfl rfl rfl (htl _ mw_14) (htl _ mw_349) hd_yX2_isVerse ⟨(Nat.le_of_ble_eq_true rfl), (Nat.le_of_ble_eq_true rfl)⟩, htl _ mw_350, htl _ mw_351⟩ ht_ld20 (by decide) tk_no rfl (tk_w.pick [] rfl) rfl hl.1 rfl (Nat.le_of_ble_eq_true rfl) dX12_sight_41 ⟨(Nat.le_of_ble_eq_true rfl), (Nat.le_of_ble_eq_true rfl)⟩ (fun v39 H locs hpo hG hS hq9 => ?_)
        have hg_0 := hg_0.call hq9 tk_w.nil
        have hg_1 := hg_1.call hq9 tk_w.nil
        have hj0_0 := hj0_0.call hq9 tk_w.nil
        have hj0_1 := hj0_1.call hq9 tk_w.nil
        have hj0_2 := hj0_2.call hq9 tk_w.nil
        have hj0_3 := hj0_3.call hq9 tk_w.nil
        have hj0_4 := hj0_4.call hq9 tk_w.nil
        have hj0_5 := hj0_5.call hq9 tk_w.nil
        have hj0_6 := hj0_6.call hq9 tk_w.nil
        have hj0_7 := hj0_7.call hq9 tk_w.nil
        have hj0_8 := hj0_8.call hq9 tk_w.nil
        have hj0_9 := hj0_9.call hq9 tk_w.nil
        obtain ⟨hpo41, hpo42, hpo43, hpo44, hpo45, hpo46⟩ := hpo
        refine lv_if_eq (tgt := 58) hx hb dX12_sight_44 (by decide) (fun c9 => ?_) (fun c9 => ?_)
        · have hc47 : v39.toInt = 0 := (fi_eq rfl (show (0 : Int32).toInt = 0 by decide)).mp c9
          refine lv_aload_n hx hb dX12_sight_58 rfl (lv_at hl 0 rfl) ?_
          refine lv_bipush (v := (-2)) hx hb dX12_sight_59 (by decide) ?_
          have hk_m2 : ((-2) : Int32).toInt = (-2) := by decide
          refine tk_Vi (As := [.int (-2)]) (rest := []) (ci := 12) ⟨hx, hb, hml, hown, hts⟩ hK hG hZ hS (k_X12_refuse_x l D cy ld t a0 (-2) g0 g15 ht_a0 (by omega) (by omega) (by omega) (by omega)) ⟨hg_0, hg_1⟩ ⟨callB_of 1 hts (wl_in mw_275) rfl rfl rfl (htl _ mw_2) (htl _ mw_272) hd_yX12_refuse ⟨(Nat.le_of_ble_eq_true rfl), (Nat.le_of_ble_eq_true rfl)⟩, htl _ mw_273, htl _ mw_274⟩ ht_a0 (by decide) tk_no rfl (tk_w.pick [0, 1] rfl) rfl hl.1 rfl (Nat.le_of_ble_eq_true rfl) dX12_sight_61 ⟨(Nat.le_of_ble_eq_true rfl), (Nat.le_of_ble_eq_true rfl)⟩ (fun v48 H locs hpo hG hS hq9 => ?_)
          have hj0_0 := hj0_0.call hq9 (tk_w.no ht_ld20 (by decide))
          have hj0_1 := hj0_1.call hq9 (tk_w.no ht_ld20 (by decide))
          have hj0_2 := hj0_2.call hq9 (tk_w.no ht_ld20 (by decide))
          have hj0_3 := hj0_3.call hq9 (tk_w.no ht_ld20 (by decide))
          have hj0_4 := hj0_4.call hq9 (tk_w.no ht_ld70 (by decide))
          have hj0_5 := hj0_5.call hq9 (tk_w.no ht_ld80 (by decide))
          have hj0_6 := hj0_6.call hq9 (tk_w.no ht_ld90 (by decide))
          have hj0_7 := hj0_7.call hq9 (tk_w.no ht_ld100 (by decide))
          have hj0_8 := hj0_8.call hq9 (tk_w.no ht_ld110 (by decide))
          have hj0_9 := hj0_9.call hq9 (tk_w.no ht_ld120 (by decide))
          obtain ⟨hpo50, hf51, hf52⟩ := hpo
          exact tk_iret (v := v48) hx hb hr rfl hlocks (show (p3.toInt ≤ (-1) → v48.toInt + 1 = 0) ∧ (12 ≤ p3.toInt → v48.toInt + 1 = 0) ∧ (p4.toInt ≤ (-1) → v48.toInt + 1 = 0) ∧ (2 ≤ p4.toInt → v48.toInt + 1 = 0) ∧ (p5.toInt ≤ (-1) → v48.toInt + 1 = 0) ∧ (2 ≤ p5.toInt → v48.toInt + 1 = 0) ∧ (0 ≤ p3.toInt → p3.toInt ≤ 11 → 0 ≤ p4.toInt → p4.toInt ≤ 1 → 0 ≤ p5.toInt → p5.toInt ≤ 1 → p1.toInt ≤ (-1) → v48.toInt + 2 = 0) ∧ (0 ≤ p3.toInt → p3.toInt ≤ 11 → 0 ≤ p4.toInt → p4.toInt ≤ 1 → 0 ≤ p5.toInt → p5.toInt ≤ 1 → 0 ≤ (-1) * n1.toInt + p1.toInt → v48.toInt + 2 = 0) ∧ (0 ≤ p3.toInt → p3.toInt ≤ 11 → 0 ≤ p4.toInt → p4.toInt ≤ 1 → 0 ≤ p5.toInt → p5.toInt ≤ 1 → p2.toInt ≤ (-1) → v48.toInt + 2 = 0) ∧ (0 ≤ p3.toInt → p3.toInt ≤ 11 → 0 ≤ p4.toInt → p4.toInt ≤ 1 → 0 ≤ p5.toInt → p5.toInt ≤ 1 → 0 ≤ (-1) * n0.toInt + p2.toInt → v48.toInt + 2 = 0) ∧ (0 ≤ p3.toInt → p3.toInt ≤ 11 → 0 ≤ p4.toInt → p4.toInt ≤ 1 → 0 ≤ p5.toInt → p5.toInt ≤ 1 → 0 ≤ p1.toInt → 0 ≤ n1.toInt + (-1) * p1.toInt + (-1) → 0 ≤ p2.toInt → 0 ≤ n0.toInt + (-1) * p2.toInt + (-1) → n3.toInt ≤ 7 → (-1) * n3.toInt + v48.toInt + (-1) = 0) ∧ (0 ≤ p3.toInt → p3.toInt ≤ 11 → 0 ≤ p4.toInt → p4.toInt ≤ 1 → 0 ≤ p5.toInt → p5.toInt ≤ 1 → 0 ≤ p1.toInt → 0 ≤ n1.toInt + (-1) * p1.toInt + (-1) → 0 ≤ p2.toInt → 0 ≤ n0.toInt + (-1) * p2.toInt + (-1) → 8 ≤ n3.toInt → v48.toInt + 5 = 0) ∧ (0 ≤ v48.toInt → n3.toInt ≤ 7) ∧ tk_f D H a0 12 13 (.int g0) ∧ tk_f D H a0 12 15 (.int g15) ∧ (∃ n3x : Int32, jC D ld (ld 20) 0 n0 n1 n2 n3x fh fs fk q1 q2 q3 H ∧ (0 ≤ v48.toInt → (-1) * n3.toInt + n3x.toInt + (-1) = 0) ∧ (v48.toInt ≤ (-1) → (-1) * n3.toInt + n3x.toInt = 0)) from ⟨(fun _ => by omega), (fun _ => by omega), (fun _ => by omega), (fun _ => by omega), (fun _ => by omega), (fun _ => by omega), (fun _ _ _ _ _ _ _ => by omega), (fun _ _ _ _ _ _ _ => by omega), (fun _ _ _ _ _ _ _ => by omega), (fun _ _ _ _ _ _ _ => by omega), (fun _ _ _ _ _ _ _ _ _ _ _ => by omega), (fun _ _ _ _ _ _ _ _ _ _ _ => by omega), (fun _ => by omega), hf51, hf52, ⟨n3, ⟨hj0_0, hj0_1, hj0_2, hj0_3, hj0_4, hj0_5, hj0_6, hj0_7, hj0_8, hj0_9⟩, (fun _ => by omega), (fun _ => by omega)⟩⟩) hG hS dX12_sight_64
        · have hc47 : ¬ (v39.toInt = 0) := fun h9 => c9 ((fi_eq rfl (show (0 : Int32).toInt = 0 by decide)).mpr h9)
          refine lv_aload_n hx hb dX12_sight_47 rfl (lv_at hl 0 rfl) ?_
          refine tk_get (ci := 12) (C := RX12) (T := TX12) (N := 17) (sp := (8, 20, 3, 0)) hx hb htl inX12 hown hK hG ht_a0 (by decide) tk_no rfl 0 (by decide) (htl _ mw_15) (fun _ h9 => h9) rfl dX12_sight_48 (fun v9 hf53 hV9 => ?_)
          obtain ⟨rfl, ht_ld20⟩ := hV9
          have ht_ld20 : t (ld 20) = (3, 0, 0) := ht_ld20
          refine fx_top (v := .ref (ld 20)) rfl ?_
          refine lv_iload_n hx hb dX12_sight_51 rfl (lv_at hl 2 rfl) ?_
          refine tk_Vi (As := [.int p2]) (rest := []) (ci := 2) ⟨hx, hb, hml, hown, hts⟩ hK hG hZ hS (k_X2_isSinger_x_x l D cy ld t (ld 20) p2 n0 ht_ld20 (by omega) (by omega)) hj0_0 ⟨callB_of 1 hts (wl_in mw_311) rfl rfl rfl (htl _ mw_14) (htl _ mw_308) hd_yX2_isSinger ⟨(Nat.le_of_ble_eq_true rfl), (Nat.le_of_ble_eq_true rfl)⟩, htl _ mw_309, htl _ mw_310⟩ ht_ld20 (by decide) tk_no rfl (tk_w.pick [] rfl) rfl hl.1 rfl (Nat.le_of_ble_eq_true rfl) dX12_sight_52 ⟨(Nat.le_of_ble_eq_true rfl), (Nat.le_of_ble_eq_true rfl)⟩ (fun v54 H locs hpo hG hS hq9 => ?_)
          have hg_0 := hg_0.call hq9 tk_w.nil
          have hg_1 := hg_1.call hq9 tk_w.nil
          have hj0_0 := hj0_0.call hq9 tk_w.nil
          have hj0_1 := hj0_1.call hq9 tk_w.nil
          have hj0_2 := hj0_2.call hq9 tk_w.nil
          have hj0_3 := hj0_3.call hq9 tk_w.nil
          have hj0_4 := hj0_4.call hq9 tk_w.nil
          have hj0_5 := hj0_5.call hq9 tk_w.nil
          have hj0_6 := hj0_6.call hq9 tk_w.nil
          have hj0_7 := hj0_7.call hq9 tk_w.nil
          have hj0_8 := hj0_8.call hq9 tk_w.nil
          have hj0_9 := hj0_9.call hq9 tk_w.nil
          obtain ⟨hpo56, hpo57, hpo58, hpo59, hpo60, hpo61⟩ := hpo
          refine lv_if_ne (tgt := 65) hx hb dX12_sight_55 (by decide) (fun c9 => ?_) (fun c9 => ?_)
          · have hc62 : ¬ (v54.toInt = 0) := fun h9 => c9 ((fi_eq rfl (show (0 : Int32).toInt = 0 by decide)).mpr h9)
            refine lv_aload_n hx hb dX12_sight_65 rfl (lv_at hl 0 rfl) ?_
            refine lv_aload_n hx hb dX12_sight_66 rfl (lv_at hl 0 rfl) ?_
            refine tk_get (ci := 12) (C := RX12) (T := TX12) (N := 17) (sp := (8, 20, 3, 0)) hx hb htl inX12 hown hK hG ht_a0 (by decide) tk_no rfl 0 (by decide) (htl _ mw_15) (fun _ h9 => h9) rfl dX12_sight_67 (fun v9 hf63 hV9 => ?_)
            obtain ⟨rfl, ht_ld20⟩ := hV9
            have ht_ld20 : t (ld 20) = (3, 0, 0) := ht_ld20
            refine fx_top (v := .ref (ld 20)) rfl ?_
            refine lv_iload_n hx hb dX12_sight_70 rfl (lv_at hl 1 rfl) ?_
            refine lv_iload_n hx hb dX12_sight_71 rfl (lv_at hl 2 rfl) ?_
            refine lv_iload_n hx hb dX12_sight_72 rfl (lv_at hl 3 rfl) ?_
            refine lv_iload hx hb dX12_sight_73 (lv_at hl 4 rfl) ?_
            refine lv_iload hx hb dX12_sight_75 (lv_at hl 5 rfl) ?_
            refine tk_Vi (As := [.int p1, .int p2, .int p3, .int p4, .int p5]) (rest := [.ref a0]) (ci := 2) ⟨hx, hb, hml, hown, hts⟩ hK hG hZ hS (k_X2_addSight_x l D cy ld t (ld 20) p1 p2 p3 p4 p5 n0 n1 n2 n3 fh fs fk q1 q2 q3 ht_ld20 ht_ld70 ht_ld80 ht_ld90 ht_ld100 ht_ld110 ht_ld120 (by omega) (by omega) (by omega) (by omega) (by omega) (by omega) (by omega) (by omega) (by omega) (by omega) (by omega) (by omega) (by omega) (by omega) (by omega) (by omega) (by omega) (by omega)) ⟨hj0_0, hj0_1, hj0_2, hj0_3, hj0_4, hj0_5, hj0_6, hj0_7, hj0_8, hj0_9⟩ ⟨callB_of 5 hts (wl_in mw_1488) rfl rfl rfl (htl _ mw_14) (htl _ mw_1485) hd_yX2_addSight ⟨(Nat.le_of_ble_eq_true rfl), (Nat.le_of_ble_eq_true rfl)⟩, htl _ mw_1486, htl _ mw_1487⟩ ht_ld20 (by decide) tk_no rfl (tk_w.pick [2, 3] rfl) rfl hl.1 rfl (Nat.le_of_ble_eq_true rfl) dX12_sight_77 ⟨(Nat.le_of_ble_eq_true rfl), (Nat.le_of_ble_eq_true rfl)⟩ (fun v64 H locs hpo hG hS hq9 => ?_)
            have hg_0 := hg_0.call hq9 (tk_w.no ht_a0 (by decide))
            have hg_1 := hg_1.call hq9 (tk_w.no ht_a0 (by decide))
            have hj0_4 := hj0_4.call hq9 (tk_w.no ht_ld70 (by decide))
            have hj0_5 := hj0_5.call hq9 (tk_w.no ht_ld80 (by decide))
            have hj0_6 := hj0_6.call hq9 (tk_w.no ht_ld90 (by decide))
            have hj0_7 := hj0_7.call hq9 (tk_w.no ht_ld100 (by decide))
            have hj0_8 := hj0_8.call hq9 (tk_w.no ht_ld110 (by decide))
            have hj0_9 := hj0_9.call hq9 (tk_w.no ht_ld120 (by decide))
            obtain ⟨hpo66, hpo67, hpo68, ⟨v73, ⟨hj69, hj70, hj71, hj72, hj74, hj75, hj76, hj77, hj78, hj79⟩, hpo80, hpo81⟩⟩ := hpo
            have hq_v73 := tk_rng v73
            refine tk_Vi (As := [.int v64]) (rest := []) (ci := 12) ⟨hx, hb, hml, hown, hts⟩ hK hG hZ hS (k_X12_tell_x l D cy ld t a0 v64 g0 g15 ht_a0 (by omega) (by omega) (by omega) (by omega)) ⟨hg_0, hg_1⟩ ⟨callB_of 1 hts (wl_in mw_271) rfl rfl rfl (htl _ mw_2) (htl _ mw_268) hd_yX12_tell ⟨(Nat.le_of_ble_eq_true rfl), (Nat.le_of_ble_eq_true rfl)⟩, htl _ mw_269, htl _ mw_270⟩ ht_a0 (by decide) tk_no rfl (tk_w.pick [0, 1] rfl) rfl hl.1 rfl (Nat.le_of_ble_eq_true rfl) dX12_sight_80 ⟨(Nat.le_of_ble_eq_true rfl), (Nat.le_of_ble_eq_true rfl)⟩ (fun v82 H locs hpo hG hS hq9 => ?_)
            have hj74 := hj74.call hq9 (tk_w.no ht_ld70 (by decide))
            have hj75 := hj75.call hq9 (tk_w.no ht_ld80 (by decide))
            have hj76 := hj76.call hq9 (tk_w.no ht_ld90 (by decide))
            have hj77 := hj77.call hq9 (tk_w.no ht_ld100 (by decide))
            have hj78 := hj78.call hq9 (tk_w.no ht_ld110 (by decide))
            have hj79 := hj79.call hq9 (tk_w.no ht_ld120 (by decide))
            have hj69 := hj69.call hq9 (tk_w.no ht_ld20 (by decide))
            have hj70 := hj70.call hq9 (tk_w.no ht_ld20 (by decide))
            have hj71 := hj71.call hq9 (tk_w.no ht_ld20 (by decide))
            have hj72 := hj72.call hq9 (tk_w.no ht_ld20 (by decide))
            obtain ⟨hpo84, hf85, hf86⟩ := hpo
            exact tk_iret (v := v82) hx hb hr rfl hlocks (show (p3.toInt ≤ (-1) → v82.toInt + 1 = 0) ∧ (12 ≤ p3.toInt → v82.toInt + 1 = 0) ∧ (p4.toInt ≤ (-1) → v82.toInt + 1 = 0) ∧ (2 ≤ p4.toInt → v82.toInt + 1 = 0) ∧ (p5.toInt ≤ (-1) → v82.toInt + 1 = 0) ∧ (2 ≤ p5.toInt → v82.toInt + 1 = 0) ∧ (0 ≤ p3.toInt → p3.toInt ≤ 11 → 0 ≤ p4.toInt → p4.toInt ≤ 1 → 0 ≤ p5.toInt → p5.toInt ≤ 1 → p1.toInt ≤ (-1) → v82.toInt + 2 = 0) ∧ (0 ≤ p3.toInt → p3.toInt ≤ 11 → 0 ≤ p4.toInt → p4.toInt ≤ 1 → 0 ≤ p5.toInt → p5.toInt ≤ 1 → 0 ≤ (-1) * n1.toInt + p1.toInt → v82.toInt + 2 = 0) ∧ (0 ≤ p3.toInt → p3.toInt ≤ 11 → 0 ≤ p4.toInt → p4.toInt ≤ 1 → 0 ≤ p5.toInt → p5.toInt ≤ 1 → p2.toInt ≤ (-1) → v82.toInt + 2 = 0) ∧ (0 ≤ p3.toInt → p3.toInt ≤ 11 → 0 ≤ p4.toInt → p4.toInt ≤ 1 → 0 ≤ p5.toInt → p5.toInt ≤ 1 → 0 ≤ (-1) * n0.toInt + p2.toInt → v82.toInt + 2 = 0) ∧ (0 ≤ p3.toInt → p3.toInt ≤ 11 → 0 ≤ p4.toInt → p4.toInt ≤ 1 → 0 ≤ p5.toInt → p5.toInt ≤ 1 → 0 ≤ p1.toInt → 0 ≤ n1.toInt + (-1) * p1.toInt + (-1) → 0 ≤ p2.toInt → 0 ≤ n0.toInt + (-1) * p2.toInt + (-1) → n3.toInt ≤ 7 → (-1) * n3.toInt + v82.toInt + (-1) = 0) ∧ (0 ≤ p3.toInt → p3.toInt ≤ 11 → 0 ≤ p4.toInt → p4.toInt ≤ 1 → 0 ≤ p5.toInt → p5.toInt ≤ 1 → 0 ≤ p1.toInt → 0 ≤ n1.toInt + (-1) * p1.toInt + (-1) → 0 ≤ p2.toInt → 0 ≤ n0.toInt + (-1) * p2.toInt + (-1) → 8 ≤ n3.toInt → v82.toInt + 5 = 0) ∧ (0 ≤ v82.toInt → n3.toInt ≤ 7) ∧ tk_f D H a0 12 13 (.int g0) ∧ tk_f D H a0 12 15 (.int g15) ∧ (∃ n3x : Int32, jC D ld (ld 20) 0 n0 n1 n2 n3x fh fs fk q1 q2 q3 H ∧ (0 ≤ v82.toInt → (-1) * n3.toInt + n3x.toInt + (-1) = 0) ∧ (v82.toInt ≤ (-1) → (-1) * n3.toInt + n3x.toInt = 0)) from ⟨(fun _ => by omega), (fun _ => by omega), (fun _ => by omega), (fun _ => by omega), (fun _ => by omega), (fun _ => by omega), (fun _ _ _ _ _ _ _ => by omega), (fun _ _ _ _ _ _ _ => by omega), (fun _ _ _ _ _ _ _ => by omega), (fun _ _ _ _ _ _ _ => by omega), (fun _ _ _ _ _ _ _ _ _ _ _ => by omega), (fun _ _ _ _ _ _ _ _ _ _ _ => by omega), (fun _ => by omega), hf85, hf86, ⟨v73, ⟨hj69, hj70, hj71, hj72, hj74, hj75, hj76, hj77, hj78, hj79⟩, (fun _ => by omega), (fun _ => by omega)⟩⟩) hG hS dX12_sight_83
          · have hc62 : v54.toInt = 0 := (fi_eq rfl (show (0 : Int32).toInt = 0 by decide)).mp c9
            refine lv_aload_n hx hb dX12_sight_58 rfl (lv_at hl 0 rfl) ?_
            refine lv_bipush (v := (-2)) hx hb dX12_sight_59 (by decide) ?_
            have hk_m2 : ((-2) : Int32).toInt = (-2) := by decide
            refine tk_Vi (As := [.int (-2)]) (rest := []) (ci := 12) ⟨hx, hb, hml, hown, hts⟩ hK hG hZ hS (k_X12_refuse_x l D cy ld t a0 (-2) g0 g15 ht_a0 (by omega) (by omega) (by omega) (by omega)) ⟨hg_0, hg_1⟩ ⟨callB_of 1 hts (wl_in mw_275) rfl rfl rfl (htl _ mw_2) (htl _ mw_272) hd_yX12_refuse ⟨(Nat.le_of_ble_eq_true rfl), (Nat.le_of_ble_eq_true rfl)⟩, htl _ mw_273, htl _ mw_274⟩ ht_a0 (by decide) tk_no rfl (tk_w.pick [0, 1] rfl) rfl hl.1 rfl (Nat.le_of_ble_eq_true rfl) dX12_sight_61 ⟨(Nat.le_of_ble_eq_true rfl), (Nat.le_of_ble_eq_true rfl)⟩ (fun v87 H locs hpo hG hS hq9 => ?_)
            have hj0_0 := hj0_0.call hq9 (tk_w.no ht_ld20 (by decide))
            have hj0_1 := hj0_1.call hq9 (tk_w.no ht_ld20 (by decide))
            have hj0_2 := hj0_2.call hq9 (tk_w.no ht_ld20 (by decide))
            have hj0_3 := hj0_3.call hq9 (tk_w.no ht_ld20 (by decide))
            have hj0_4 := hj0_4.call hq9 (tk_w.no ht_ld70 (by decide))
            have hj0_5 := hj0_5.call hq9 (tk_w.no ht_ld80 (by decide))
            have hj0_6 := hj0_6.call hq9 (tk_w.no ht_ld90 (by decide))
            have hj0_7 := hj0_7.call hq9 (tk_w.no ht_ld100 (by decide))
            have hj0_8 := hj0_8.call hq9 (tk_w.no ht_ld110 (by decide))
            have hj0_9 := hj0_9.call hq9 (tk_w.no ht_ld120 (by decide))
            obtain ⟨hpo89, hf90, hf91⟩ := hpo
            exact tk_iret (v := v87) hx hb hr rfl hlocks (show (p3.toInt ≤ (-1) → v87.toInt + 1 = 0) ∧ (12 ≤ p3.toInt → v87.toInt + 1 = 0) ∧ (p4.toInt ≤ (-1) → v87.toInt + 1 = 0) ∧ (2 ≤ p4.toInt → v87.toInt + 1 = 0) ∧ (p5.toInt ≤ (-1) → v87.toInt + 1 = 0) ∧ (2 ≤ p5.toInt → v87.toInt + 1 = 0) ∧ (0 ≤ p3.toInt → p3.toInt ≤ 11 → 0 ≤ p4.toInt → p4.toInt ≤ 1 → 0 ≤ p5.toInt → p5.toInt ≤ 1 → p1.toInt ≤ (-1) → v87.toInt + 2 = 0) ∧ (0 ≤ p3.toInt → p3.toInt ≤ 11 → 0 ≤ p4.toInt → p4.toInt ≤ 1 → 0 ≤ p5.toInt → p5.toInt ≤ 1 → 0 ≤ (-1) * n1.toInt + p1.toInt → v87.toInt + 2 = 0) ∧ (0 ≤ p3.toInt → p3.toInt ≤ 11 → 0 ≤ p4.toInt → p4.toInt ≤ 1 → 0 ≤ p5.toInt → p5.toInt ≤ 1 → p2.toInt ≤ (-1) → v87.toInt + 2 = 0) ∧ (0 ≤ p3.toInt → p3.toInt ≤ 11 → 0 ≤ p4.toInt → p4.toInt ≤ 1 → 0 ≤ p5.toInt → p5.toInt ≤ 1 → 0 ≤ (-1) * n0.toInt + p2.toInt → v87.toInt + 2 = 0) ∧ (0 ≤ p3.toInt → p3.toInt ≤ 11 → 0 ≤ p4.toInt → p4.toInt ≤ 1 → 0 ≤ p5.toInt → p5.toInt ≤ 1 → 0 ≤ p1.toInt → 0 ≤ n1.toInt + (-1) * p1.toInt + (-1) → 0 ≤ p2.toInt → 0 ≤ n0.toInt + (-1) * p2.toInt + (-1) → n3.toInt ≤ 7 → (-1) * n3.toInt + v87.toInt + (-1) = 0) ∧ (0 ≤ p3.toInt → p3.toInt ≤ 11 → 0 ≤ p4.toInt → p4.toInt ≤ 1 → 0 ≤ p5.toInt → p5.toInt ≤ 1 → 0 ≤ p1.toInt → 0 ≤ n1.toInt + (-1) * p1.toInt + (-1) → 0 ≤ p2.toInt → 0 ≤ n0.toInt + (-1) * p2.toInt + (-1) → 8 ≤ n3.toInt → v87.toInt + 5 = 0) ∧ (0 ≤ v87.toInt → n3.toInt ≤ 7) ∧ tk_f D H a0 12 13 (.int g0) ∧ tk_f D H a0 12 15 (.int g15) ∧ (∃ n3x : Int32, jC D ld (ld 20) 0 n0 n1 n2 n3x fh fs fk q1 q2 q3 H ∧ (0 ≤ v87.toInt → (-1) * n3.toInt + n3x.toInt + (-1) = 0) ∧ (v87.toInt ≤ (-1) → (-1) * n3.toInt + n3x.toInt = 0)) from ⟨(fun _ => by omega), (fun _ => by omega), (fun _ => by omega), (fun _ => by omega), (fun _ => by omega), (fun _ => by omega), (fun _ _ _ _ _ _ _ => by omega), (fun _ _ _ _ _ _ _ => by omega), (fun _ _ _ _ _ _ _ => by omega), (fun _ _ _ _ _ _ _ => by omega), (fun _ _ _ _ _ _ _ _ _ _ _ => by omega), (fun _ _ _ _ _ _ _ _ _ _ _ => by omega), (fun _ => by omega), hf90, hf91, ⟨n3, ⟨hj0_0, hj0_1, hj0_2, hj0_3, hj0_4, hj0_5, hj0_6, hj0_7, hj0_8, hj0_9⟩, (fun _ => by omega), (fun _ => by omega)⟩⟩) hG hS dX12_sight_64
      · have hc37 : v29.toInt = 0 := (fi_eq rfl (show (0 : Int32).toInt = 0 by decide)).mp c9
        refine lv_aload_n hx hb dX12_sight_30 rfl (lv_at hl 0 rfl) ?_
        refine lv_iconst (v := (-1)) hx hb dX12_sight_31 (by decide) ?_
        have hk_m1 : ((-1) : Int32).toInt = (-1) := by decide
        refine tk_Vi (As := [.int (-1)]) (rest := []) (ci := 12) ⟨hx, hb, hml, hown, hts⟩ hK hG hZ hS (k_X12_refuse_x l D cy ld t a0 (-1) g0 g15 ht_a0 (by omega) (by omega) (by omega) (by omega)) ⟨hg_0, hg_1⟩ ⟨callB_of 1 hts (wl_in mw_275) rfl rfl rfl (htl _ mw_2) (htl _ mw_272) hd_yX12_refuse ⟨(Nat.le_of_ble_eq_true rfl), (Nat.le_of_ble_eq_true rfl)⟩, htl _ mw_273, htl _ mw_274⟩ ht_a0 (by decide) tk_no rfl (tk_w.pick [0, 1] rfl) rfl hl.1 rfl (Nat.le_of_ble_eq_true rfl) dX12_sight_32 ⟨(Nat.le_of_ble_eq_true rfl), (Nat.le_of_ble_eq_true rfl)⟩ (fun v92 H locs hpo hG hS hq9 => ?_)
        have hj0_0 := hj0_0.call hq9 (tk_w.no ht_ld20 (by decide))
        have hj0_1 := hj0_1.call hq9 (tk_w.no ht_ld20 (by decide))
        have hj0_2 := hj0_2.call hq9 (tk_w.no ht_ld20 (by decide))
        have hj0_3 := hj0_3.call hq9 (tk_w.no ht_ld20 (by decide))
        have hj0_4 := hj0_4.call hq9 (tk_w.no ht_ld70 (by decide))
        have hj0_5 := hj0_5.call hq9 (tk_w.no ht_ld80 (by decide))
        have hj0_6 := hj0_6.call hq9 (tk_w.no ht_ld90 (by decide))
        have hj0_7 := hj0_7.call hq9 (tk_w.no ht_ld100 (by decide))
        have hj0_8 := hj0_8.call hq9 (tk_w.no ht_ld110 (by decide))
        have hj0_9 := hj0_9.call hq9 (tk_w.no ht_ld120 (by decide))
        obtain ⟨hpo94, hf95, hf96⟩ := hpo
        exact tk_iret (v := v92) hx hb hr rfl hlocks (show (p3.toInt ≤ (-1) → v92.toInt + 1 = 0) ∧ (12 ≤ p3.toInt → v92.toInt + 1 = 0) ∧ (p4.toInt ≤ (-1) → v92.toInt + 1 = 0) ∧ (2 ≤ p4.toInt → v92.toInt + 1 = 0) ∧ (p5.toInt ≤ (-1) → v92.toInt + 1 = 0) ∧ (2 ≤ p5.toInt → v92.toInt + 1 = 0) ∧ (0 ≤ p3.toInt → p3.toInt ≤ 11 → 0 ≤ p4.toInt → p4.toInt ≤ 1 → 0 ≤ p5.toInt → p5.toInt ≤ 1 → p1.toInt ≤ (-1) → v92.toInt + 2 = 0) ∧ (0 ≤ p3.toInt → p3.toInt ≤ 11 → 0 ≤ p4.toInt → p4.toInt ≤ 1 → 0 ≤ p5.toInt → p5.toInt ≤ 1 → 0 ≤ (-1) * n1.toInt + p1.toInt → v92.toInt + 2 = 0) ∧ (0 ≤ p3.toInt → p3.toInt ≤ 11 → 0 ≤ p4.toInt → p4.toInt ≤ 1 → 0 ≤ p5.toInt → p5.toInt ≤ 1 → p2.toInt ≤ (-1) → v92.toInt + 2 = 0) ∧ (0 ≤ p3.toInt → p3.toInt ≤ 11 → 0 ≤ p4.toInt → p4.toInt ≤ 1 → 0 ≤ p5.toInt → p5.toInt ≤ 1 → 0 ≤ (-1) * n0.toInt + p2.toInt → v92.toInt + 2 = 0) ∧ (0 ≤ p3.toInt → p3.toInt ≤ 11 → 0 ≤ p4.toInt → p4.toInt ≤ 1 → 0 ≤ p5.toInt → p5.toInt ≤ 1 → 0 ≤ p1.toInt → 0 ≤ n1.toInt + (-1) * p1.toInt + (-1) → 0 ≤ p2.toInt → 0 ≤ n0.toInt + (-1) * p2.toInt + (-1) → n3.toInt ≤ 7 → (-1) * n3.toInt + v92.toInt + (-1) = 0) ∧ (0 ≤ p3.toInt → p3.toInt ≤ 11 → 0 ≤ p4.toInt → p4.toInt ≤ 1 → 0 ≤ p5.toInt → p5.toInt ≤ 1 → 0 ≤ p1.toInt → 0 ≤ n1.toInt + (-1) * p1.toInt + (-1) → 0 ≤ p2.toInt → 0 ≤ n0.toInt + (-1) * p2.toInt + (-1) → 8 ≤ n3.toInt → v92.toInt + 5 = 0) ∧ (0 ≤ v92.toInt → n3.toInt ≤ 7) ∧ tk_f D H a0 12 13 (.int g0) ∧ tk_f D H a0 12 15 (.int g15) ∧ (∃ n3x : Int32, jC D ld (ld 20) 0 n0 n1 n2 n3x fh fs fk q1 q2 q3 H ∧ (0 ≤ v92.toInt → (-1) * n3.toInt + n3x.toInt + (-1) = 0) ∧ (v92.toInt ≤ (-1) → (-1) * n3.toInt + n3x.toInt = 0)) from ⟨(fun _ => by omega), (fun _ => by omega), (fun _ => by omega), (fun _ => by omega), (fun _ => by omega), (fun _ => by omega), (fun _ _ _ _ _ _ _ => by omega), (fun _ _ _ _ _ _ _ => by omega), (fun _ _ _ _ _ _ _ => by omega), (fun _ _ _ _ _ _ _ => by omega), (fun _ _ _ _ _ _ _ _ _ _ _ => by omega), (fun _ _ _ _ _ _ _ _ _ _ _ => by omega), (fun _ => by omega), hf95, hf96, ⟨n3, ⟨hj0_0, hj0_1, hj0_2, hj0_3, hj0_4, hj0_5, hj0_6, hj0_7, hj0_8, hj0_9⟩, (fun _ => by omega), (fun _ => by omega)⟩⟩) hG hS dX12_sight_35
