set_option maxHeartbeats 4000000 in
set_option maxRecDepth 100000 in
theorem k_X3_joinMore_2_x (l : Launch) (D : va_G) (cy : Nat → ClassId) (ld : Nat → Nat) (t : tk_T) (a0 : Nat) (p2 : Int32) (p3 : Int32) (p4 : Int32) (LL : Int) (bj bb : Nat) (bl bs : Int32) (J B : Nat → Int32) (n0 n1 n2 n3 : Int32) (fh fs fk q1 q2 q3 : Nat → Int32) (ht_a0 : t a0 = (4, 0, 0)) (ht_bj : t bj = (22, 4, 0)) (ht_bb : t bb = (20, 4, 0)) (ht_ld20 : t (ld 20) = (3, 0, 0)) (ht_ld70 : t (ld 70) = (32, 8, 0)) (ht_ld80 : t (ld 80) = (33, 10, 0)) (ht_ld90 : t (ld 90) = (34, 10, 0)) (ht_ld100 : t (ld 100) = (35, 10, 0)) (ht_ld110 : t (ld 110) = (36, 10, 0)) (ht_ld120 : t (ld 120) = (37, 10, 0)) (hp_0 : 0 ≤ p3.toInt) (hp_1 : p3.toInt ≤ 204) (hp_2 : 0 ≤ p4.toInt) (hp_3 : p4.toInt ≤ 36) (hp_4 : 0 ≤ bl.toInt) (hp_5 : bl.toInt ≤ 4) (hp_6 : 0 ≤ n0.toInt) (hp_7 : n0.toInt ≤ 8) (hp_8 : 0 ≤ n1.toInt) (hp_9 : n1.toInt ≤ 10) (hp_10 : 0 ≤ n2.toInt) (hp_11 : n2.toInt ≤ 10) (hp_12 : 0 ≤ n3.toInt) (hp_13 : n3.toInt ≤ 8) (hqr : ∀ j : Nat, (j : Int) < n2.toInt → (1 ≤ (q1 j).toInt ∧ (q1 j).toInt ≤ 99) ∧ 1 ≤ (q3 j).toInt ∧ (q3 j).toInt ≤ 9) (hmu : mU n2.toInt LL (mq n2.toInt q1) (mq n2.toInt q2) (mq n2.toInt q3) 2 J p2 p3 p4) : Met l yX3_joinMore (wl yX3_joinMore cX3_joinMore 8 none) ({ frames := 6, cells := 0, slots := 0, locals := 350 }) (tp D cy ld t [] [.ref a0, .int 2, .int p2, .int p3, .int p4] (fun H => jM D a0 bj bb bl bs J B H ∧ jC D ld (ld 20) 0 n0 n1 n2 n3 fh fs fk q1 q2 q3 H)) (tv D cy ld t [] (fun H => (∃ (bl9 bs9 : Int32) (J9 B9 : Nat → Int32), jM D a0 bj bb bl9 bs9 J9 B9 H ∧ (0 ≤ bl9.toInt ∧ bl9.toInt ≤ 4) ∧ mAg 2 J9 J ∧ mP n2.toInt LL (mq n2.toInt q1) (mq n2.toInt q2) (mq n2.toInt q3) 2 J (bs.toInt, bl.toInt, B) (bs9.toInt, bl9.toInt, B9)) ∧ jC D ld (ld 20) 0 n0 n1 n2 n3 fh fs fk q1 q2 q3 H) (tk_w t [(22, 0, 0), (4, 0, 0), (20, 0, 0)])) 0 0 (tk_w t [(22, 0, 0), (4, 0, 0), (20, 0, 0)]) := by
  refine tk_met (y := yX3_joinMore) (cc := cX3_joinMore) (maxL := 8) (ret := none) (av := [.ref a0, .int 2, .int p2, .int p3, .int p4]) _ _ (by decide) (Nat.le_of_ble_eq_true rfl) ?_
  intro p e s m args below meth c hx hb hr hml hts htl hown hlocks hK H locs hH hG hS hB hZ ls hl
  have hown : s.vm.findClass RX3 = some m.cls := hown
  have hl : lv_has ls 8 [(0, .ref a0), (1, .int 2), (2, .int p2), (3, .int p3), (4, .int p4)] := hl
  obtain ⟨⟨hj0_0, hj0_1, hj0_2, hj0_3, hj0_4, hj0_5⟩, ⟨hj1_0, hj1_1, hj1_2, hj1_3, hj1_4, hj1_5, hj1_6, hj1_7, hj1_8, hj1_9⟩⟩ := hB
  have hr_p2 := tk_rng p2
  have hr_p3 := tk_rng p3
  have hr_p4 := tk_rng p4
  refine lv_iload_n hx hb dX3_joinMore_0 rfl (lv_at hl 1 rfl) ?_
  refine lv_if_le (tgt := 36) hx hb dX3_joinMore_1 (by decide) (fun c9 => absurd c9 (by decide)) (fun _ => ?_)
  refine lv_iload_n hx hb dX3_joinMore_4 rfl (lv_at hl 3 rfl) ?_
  refine lv_aload_n hx hb dX3_joinMore_5 rfl (lv_at hl 0 rfl) ?_
  refine tk_getk (ci := 3) (C := RX3) (T := TX3) (N := 5) (sp := (0, (-2147483648), 2147483647, 0)) hx hb htl inX3 hown hK hG ht_a0 (by decide) tk_no rfl 4 (by decide) (htl _ mw_1456) (fun _ h9 => h9) rfl hj0_3 dX3_joinMore_6 ?_
  refine lv_icmp_le (tgt := 36) hx hb dX3_joinMore_9 (by decide) (fun c9 => ?_) (fun c9 => ?_)
  · have hc1 : p3.toInt ≤ bs.toInt := (fi_le rfl rfl).mp c9
    refine lv_iload_n hx hb dX3_joinMore_36 rfl (lv_at hl 1 rfl) ?_
    refine lv_iconst (v := 4) hx hb dX3_joinMore_37 (by decide) ?_
    refine lv_icmp_lt (tgt := 42) hx hb dX3_joinMore_38 (by decide) (fun _ => ?_) (fun c9 => absurd (by decide) c9)
    refine lv_iconst (v := 0) hx hb dX3_joinMore_42 (by decide) ?_
    refine lv_istore (lv' := [(5, .int 0), (0, .ref a0), (1, .int 2), (2, .int p2), (3, .int p3), (4, .int p4)]) hx hb dX3_joinMore_43 hl (by decide) rfl (fun ls hl => ?_)
    have hl770 : ∀ (N_l770 : Nat) (v99 : Int32) (v100 : Int32) (v101 : Int32) (f102 : Nat → Int32) (f103 : Nat → Int32) (H : Heap) (locs : List Loc), v99.toInt ≤ 10 → 0 ≤ v99.toInt → 0 ≤ v100.toInt → v100.toInt ≤ 4 → (-1) * v99.toInt + 10 < (N_l770 : Int) → tk_G D cy ld t [] H → va_S (tk_w t [(22, 0, 0), (4, 0, 0), (20, 0, 0)]) s.heap H locs → tk_f D H a0 3 1 (.ref bj) → tk_f D H a0 3 2 (.ref bb) → tk_f D H a0 3 3 (.int v100) → tk_f D H a0 3 4 (.int v101) → tk_c H bj 4 f102 → tk_c H bb 4 f103 → tk_f D H (ld 20) 2 0 (.int n0) → tk_f D H (ld 20) 2 4 (.int n1) → tk_f D H (ld 20) 2 7 (.int n2) → tk_f D H (ld 20) 2 11 (.int n3) → tk_c H (ld 70) 8 fh → tk_c H (ld 80) 10 fs → tk_c H (ld 90) 10 fk → tk_c H (ld 100) 10 q1 → tk_c H (ld 110) 10 q2 → tk_c H (ld 120) 10 q3 → mI n2.toInt LL (mq n2.toInt q1) (mq n2.toInt q2) (mq n2.toInt q3) 2 J (bs.toInt, bl.toInt, B) v99.toInt (v101.toInt, v100.toInt, f103) → mAg 2 f102 J → ∀ ls : Array Slot, lv_has ls 8 [(5, .int v99), (0, .ref a0), (1, .int 2), (2, .int p2), (3, .int p3), (4, .int p4)] → W p l e ({ frames := 6, cells := 0, slots := 0, locals := 350 }) s m args below meth c H locs 0 0 (MQ below (tv D cy ld t [] (fun H => (∃ (bl9 bs9 : Int32) (J9 B9 : Nat → Int32), jM D a0 bj bb bl9 bs9 J9 B9 H ∧ (0 ≤ bl9.toInt ∧ bl9.toInt ≤ 4) ∧ mAg 2 J9 J ∧ mP n2.toInt LL (mq n2.toInt q1) (mq n2.toInt q2) (mq n2.toInt q3) 2 J (bs.toInt, bl.toInt, B) (bs9.toInt, bl9.toInt, B9)) ∧ jC D ld (ld 20) 0 n0 n1 n2 n3 fh fs fk q1 q2 q3 H) (tk_w t [(22, 0, 0), (4, 0, 0), (20, 0, 0)])) args s 0 0 (tk_w t [(22, 0, 0), (4, 0, 0), (20, 0, 0)])) (F0 m 45 ls []) := by
      intro N_l770
      induction N_l770 with
      | zero => intro v99 v100 v101 f102 f103 H locs hq0_l770 hq1_l770 hq2_l770 hq3_l770 hm_l770 hG hS hj0_0 hj0_1 hj0_2 hj0_3 hj0_4 hj0_5 hj1_0 hj1_1 hj1_2 hj1_3 hj1_4 hj1_5 hj1_6 hj1_7 hj1_8 hj1_9 hmI9 hag ls hl; exfalso; omega
      | succ N_l770 ih_l770 =>
        intro v99 v100 v101 f102 f103 H locs hq0_l770 hq1_l770 hq2_l770 hq3_l770 hm_l770 hG hS hj0_0 hj0_1 hj0_2 hj0_3 hj0_4 hj0_5 hj1_0 hj1_1 hj1_2 hj1_3 hj1_4 hj1_5 hj1_6 hj1_7 hj1_8 hj1_9 hmI9 hag ls hl
        refine lv_iload hx hb dX3_joinMore_45 (lv_at hl 0 rfl) ?_
        refine lv_aload_n hx hb dX3_joinMore_47 rfl (lv_at hl 1 rfl) ?_
        refine tk_get (ci := 3) (C := RX3) (T := TX3) (N := 5) (sp := (8, 20, 3, 0)) hx hb htl inX3 hown hK hG ht_a0 (by decide) tk_no rfl 0 (by decide) (htl _ mw_175) (fun _ h9 => h9) rfl dX3_joinMore_48 (fun v9 hf771 hV9 => ?_)
        obtain ⟨rfl, ht_ld20⟩ := hV9
        have ht_ld20 : t (ld 20) = (3, 0, 0) := ht_ld20
        refine fx_top (v := .ref (ld 20)) rfl ?_
        refine tk_getk (ci := 2) (C := RX2) (T := TX2) (N := 20) (sp := (0, 0, 10, 0)) hx hb htl inX2 hown hK hG ht_ld20 (by decide) tk_no rfl 7 (by decide) (htl _ mw_1462) (fun _ h9 => h9) rfl hj1_2 dX3_joinMore_51 ?_
        refine lv_icmp_ge (tgt := 188) hx hb dX3_joinMore_54 (by decide) (fun c9 => ?_) (fun c9 => ?_)
        · have hc772 : n2.toInt ≤ v99.toInt := (fi_le rfl rfl).mp c9
          exact tk_vret hx hb hr hlocks (show (∃ (bl9 bs9 : Int32) (J9 B9 : Nat → Int32), jM D a0 bj bb bl9 bs9 J9 B9 H ∧ (0 ≤ bl9.toInt ∧ bl9.toInt ≤ 4) ∧ mAg 2 J9 J ∧ mP n2.toInt LL (mq n2.toInt q1) (mq n2.toInt q2) (mq n2.toInt q3) 2 J (bs.toInt, bl.toInt, B) (bs9.toInt, bl9.toInt, B9)) ∧ jC D ld (ld 20) 0 n0 n1 n2 n3 fh fs fk q1 q2 q3 H from ⟨⟨v100, v101, f102, f103, ⟨hj0_0, hj0_1, hj0_2, hj0_3, hj0_4, hj0_5⟩, ⟨by omega, by omega⟩, hag, (mI_end hmI9 (by omega) (by omega) (by omega))⟩, ⟨hj1_0, hj1_1, hj1_2, hj1_3, hj1_4, hj1_5, hj1_6, hj1_7, hj1_8, hj1_9⟩⟩) hG hS dX3_joinMore_188
        · have hc772 : ¬ (n2.toInt ≤ v99.toInt) := fun h9 => c9 ((fi_le rfl rfl).mpr h9)
          refine lv_iload_n hx hb dX3_joinMore_57 rfl (lv_at hl 3 rfl) ?_
          refine lv_iload hx hb dX3_joinMore_58 (lv_at hl 0 rfl) ?_
          obtain ⟨v773, hm_v773⟩ : ∃ z : Int32, p2 >>> (v99 &&& 31) = z := ⟨_, rfl⟩
          refine lv_ishr hx hb dX3_joinMore_60 ?_
          refine fx_ti hm_v773 ?_
          have hq_v773 := tk_rng v773
          refine lv_iconst (v := 1) hx hb dX3_joinMore_61 (by decide) ?_
          obtain ⟨v774, hm_v774⟩ : ∃ z : Int32, v773 &&& (1 : Int32) = z := ⟨_, rfl⟩
          refine lv_iand hx hb dX3_joinMore_62 ?_
          refine fx_ti hm_v774 ?_
          have h_v774 : 0 ≤ v774.toInt ∧ v774.toInt ≤ 1 := hm_v774 ▸ tk_and v773 1 (by decide) (by decide)
          refine lv_if_ne (tgt := 182) hx hb dX3_joinMore_63 (by decide) (fun c9 => ?_) (fun c9 => ?_)
          · have hc775 : ¬ (v774.toInt = 0) := fun h9 => c9 ((fi_eq rfl (show (0 : Int32).toInt = 0 by decide)).mpr h9)
            obtain ⟨v776, h_v776, e_v776⟩ := tk_inc v99 1 (by decide) (by omega) (by omega)
            refine lv_iinc (v := v776) (lv' := [(5, .int v776), (0, .ref a0), (1, .int 2), (2, .int p2), (3, .int p3), (4, .int p4)]) hx hb dX3_joinMore_182 hl (k := 0) rfl e_v776 (by decide) rfl (fun ls hl => ?_)
            refine lv_goto (tgt := 45) hx hb dX3_joinMore_185 (by decide) ?_
            exact ih_l770 v776 v100 v101 f102 f103 _ _ (by omega) (by omega) (by omega) (by omega) (by omega) hG hS hj0_0 hj0_1 hj0_2 hj0_3 hj0_4 hj0_5 hj1_0 hj1_1 hj1_2 hj1_3 hj1_4 hj1_5 hj1_6 hj1_7 hj1_8 hj1_9 (mI_skip (by omega) hmI9 (by omega) (by omega) (by omega) (Or.inl (mU_used hmu (by omega) (by omega) (by rw [hm_v773, hm_v774]; omega)))) hag _ (lv_sub hl [0, 1, 2, 3, 4, 5] rfl)
          · have hc775 : v774.toInt = 0 := (fi_eq rfl (show (0 : Int32).toInt = 0 by decide)).mp c9
            refine lv_aload_n hx hb dX3_joinMore_66 rfl (lv_at hl 1 rfl) ?_
            refine tk_get (ci := 3) (C := RX3) (T := TX3) (N := 5) (sp := (8, 20, 3, 0)) hx hb htl inX3 hown hK hG ht_a0 (by decide) tk_no rfl 0 (by decide) (htl _ mw_175) (fun _ h9 => h9) rfl dX3_joinMore_67 (fun v9 hf777 hV9 => ?_)
            obtain ⟨rfl, ht_ld20⟩ := hV9
            have ht_ld20 : t (ld 20) = (3, 0, 0) := ht_ld20
            refine fx_top (v := .ref (ld 20)) rfl ?_
            refine tk_get (ci := 2) (C := RX2) (T := TX2) (N := 20) (sp := (11, 120, 37, 10)) hx hb htl inX2 hown hK hG ht_ld20 (by decide) tk_no rfl 10 (by decide) (htl _ mw_1463) (fun _ h9 => h9) rfl dX3_joinMore_70 (fun v9 hf778 hV9 => ?_)
            obtain ⟨rfl, ht_ld120⟩ := hV9
            have ht_ld120 : t (ld 120) = (37, 10, 0) := ht_ld120
            refine fx_top (v := .ref (ld 120)) rfl ?_
            refine lv_iload hx hb dX3_joinMore_73 (lv_at hl 0 rfl) ?_
            refine tk_iald hx hb hK hG ht_ld120 (by decide) (fun _ h => h) tk_no rfl (by omega) (by omega) dX3_joinMore_75 (fun v779 _ hz9 => ?_)
            have hr_v779 := tk_rng v779
            have ev_v779 : v779 = q3 v99.toNatClampNeg := hj1_9.at hz9 (by have h9 : v99.toNatClampNeg = v99.toInt.toNat := rfl; omega)
            have he_v779 : 1 ≤ v779.toInt ∧ v779.toInt ≤ 9 := by rw [ev_v779]; exact (hqr v99.toInt.toNat (by omega)).2
            refine lv_iload hx hb dX3_joinMore_76 (lv_at hl 5 rfl) ?_
            refine lv_icmp_gt (tgt := 182) hx hb dX3_joinMore_78 (by decide) (fun c9 => ?_) (fun c9 => ?_)
            · have hc780 : p4.toInt < v779.toInt := (fi_lt rfl rfl).mp c9
              obtain ⟨v781, h_v781, e_v781⟩ := tk_inc v99 1 (by decide) (by omega) (by omega)
              refine lv_iinc (v := v781) (lv' := [(5, .int v781), (0, .ref a0), (1, .int 2), (2, .int p2), (3, .int p3), (4, .int p4)]) hx hb dX3_joinMore_182 hl (k := 0) rfl e_v781 (by decide) rfl (fun ls hl => ?_)
              refine lv_goto (tgt := 45) hx hb dX3_joinMore_185 (by decide) ?_
              exact ih_l770 v781 v100 v101 f102 f103 _ _ (by omega) (by omega) (by omega) (by omega) (by omega) hG hS hj0_0 hj0_1 hj0_2 hj0_3 hj0_4 hj0_5 hj1_0 hj1_1 hj1_2 hj1_3 hj1_4 hj1_5 hj1_6 hj1_7 hj1_8 hj1_9 (mI_skip (by omega) hmI9 (by omega) (by omega) (by omega) (Or.inr (by have h7 := hmu.2.2.2.1; have e7 : mq n2.toInt q3 v99.toInt.toNat = v779 := (mq_at (by omega)).trans ev_v779.symm; rw [e7]; omega))) hag _ (lv_sub hl [0, 1, 2, 3, 4, 5] rfl)
            · have hc780 : ¬ (p4.toInt < v779.toInt) := fun h9 => c9 ((fi_lt rfl rfl).mpr h9)
              refine lv_iload_n hx hb dX3_joinMore_81 rfl (lv_at hl 2 rfl) ?_
              refine lv_if_le (tgt := 118) hx hb dX3_joinMore_82 (by decide) (fun c9 => absurd c9 (by decide)) (fun _ => ?_)
              refine lv_aload_n hx hb dX3_joinMore_85 rfl (lv_at hl 1 rfl) ?_
              refine tk_get (ci := 3) (C := RX3) (T := TX3) (N := 5) (sp := (8, 20, 3, 0)) hx hb htl inX3 hown hK hG ht_a0 (by decide) tk_no rfl 0 (by decide) (htl _ mw_175) (fun _ h9 => h9) rfl dX3_joinMore_86 (fun v9 hf782 hV9 => ?_)
              obtain ⟨rfl, ht_ld20⟩ := hV9
              have ht_ld20 : t (ld 20) = (3, 0, 0) := ht_ld20
              refine fx_top (v := .ref (ld 20)) rfl ?_
              refine tk_get (ci := 2) (C := RX2) (T := TX2) (N := 20) (sp := (11, 110, 36, 10)) hx hb htl inX2 hown hK hG ht_ld20 (by decide) tk_no rfl 9 (by decide) (htl _ mw_1464) (fun _ h9 => h9) rfl dX3_joinMore_89 (fun v9 hf783 hV9 => ?_)
              obtain ⟨rfl, ht_ld110⟩ := hV9
              have ht_ld110 : t (ld 110) = (36, 10, 0) := ht_ld110
              refine fx_top (v := .ref (ld 110)) rfl ?_
              refine lv_aload_n hx hb dX3_joinMore_92 rfl (lv_at hl 1 rfl) ?_
              refine tk_getk (ci := 3) (C := RX3) (T := TX3) (N := 5) (sp := (6, 22, 4, 0)) hx hb htl inX3 hown hK hG ht_a0 (by decide) tk_no rfl 1 (by decide) (htl _ mw_173) (fun _ h9 => h9) rfl hj0_0 dX3_joinMore_93 ?_
              refine lv_iload_n hx hb dX3_joinMore_96 rfl (lv_at hl 2 rfl) ?_
              refine lv_iconst (v := 1) hx hb dX3_joinMore_97 (by decide) ?_
              refine lv_isub hx hb dX3_joinMore_98 ?_
              refine fx_ti (v := 1) (by decide) ?_
              refine tk_iald hx hb hK hG ht_bj (by decide) (fun _ h => h) tk_no (I := 1) (by decide) (by decide) (by decide) dX3_joinMore_99 (fun v784 hE9 hz9 => ?_)
              have he_v784 : 0 ≤ v784.toInt ∧ v784.toInt ≤ 9 := hE9
              have ev_v784 : v784 = f102 (1 : Int32).toNatClampNeg := hj0_4.at hz9 (by decide)
              refine tk_iald hx hb hK hG ht_ld110 (by decide) (fun _ h => h) tk_no rfl (by omega) (by omega) dX3_joinMore_100 (fun v785 _ hz9 => ?_)
              have hr_v785 := tk_rng v785
              have ev_v785 : v785 = q2 v784.toNatClampNeg := hj1_8.at hz9 (by have h9 : v784.toNatClampNeg = v784.toInt.toNat := rfl; omega)
              refine lv_aload_n hx hb dX3_joinMore_101 rfl (lv_at hl 1 rfl) ?_
              refine tk_get (ci := 3) (C := RX3) (T := TX3) (N := 5) (sp := (8, 20, 3, 0)) hx hb htl inX3 hown hK hG ht_a0 (by decide) tk_no rfl 0 (by decide) (htl _ mw_175) (fun _ h9 => h9) rfl dX3_joinMore_102 (fun v9 hf786 hV9 => ?_)
              obtain ⟨rfl, ht_ld20⟩ := hV9
              have ht_ld20 : t (ld 20) = (3, 0, 0) := ht_ld20
              refine fx_top (v := .ref (ld 20)) rfl ?_
              refine tk_get (ci := 2) (C := RX2) (T := TX2) (N := 20) (sp := (11, 110, 36, 10)) hx hb htl inX2 hown hK hG ht_ld20 (by decide) tk_no rfl 9 (by decide) (htl _ mw_1464) (fun _ h9 => h9) rfl dX3_joinMore_105 (fun v9 hf787 hV9 => ?_)
              obtain ⟨rfl, ht_ld110⟩ := hV9
              have ht_ld110 : t (ld 110) = (36, 10, 0) := ht_ld110
              refine fx_top (v := .ref (ld 110)) rfl ?_
              refine lv_iload hx hb dX3_joinMore_108 (lv_at hl 0 rfl) ?_
              refine tk_iald hx hb hK hG ht_ld110 (by decide) (fun _ h => h) tk_no rfl (by omega) (by omega) dX3_joinMore_110 (fun v788 _ hz9 => ?_)
              have hr_v788 := tk_rng v788
              have ev_v788 : v788 = q2 v99.toNatClampNeg := hj1_8.at hz9 (by have h9 : v99.toNatClampNeg = v99.toInt.toNat := rfl; omega)
              refine lv_icmp_ne (tgt := 118) hx hb dX3_joinMore_111 (by decide) (fun c9 => ?_) (fun c9 => ?_)
              · have hc789 : ¬ (v785.toInt = v788.toInt) := fun h9 => c9 ((fi_eq rfl rfl).mpr h9)
                refine lv_iconst (v := 0) hx hb dX3_joinMore_118 (by decide) ?_
                refine lv_istore (lv' := [(6, .int 0), (5, .int v99), (0, .ref a0), (1, .int 2), (2, .int p2), (3, .int p3), (4, .int p4)]) hx hb dX3_joinMore_119 hl (by decide) rfl (fun ls hl => ?_)
                refine lv_aload_n hx hb dX3_joinMore_121 rfl (lv_at hl 2 rfl) ?_
                refine tk_getk (ci := 3) (C := RX3) (T := TX3) (N := 5) (sp := (6, 22, 4, 0)) hx hb htl inX3 hown hK hG ht_a0 (by decide) tk_no rfl 1 (by decide) (htl _ mw_173) (fun _ h9 => h9) rfl hj0_0 dX3_joinMore_122 ?_
                refine lv_iload_n hx hb dX3_joinMore_125 rfl (lv_at hl 3 rfl) ?_
                refine lv_iload hx hb dX3_joinMore_126 (lv_at hl 1 rfl) ?_
                refine tk_iastC hx hb hK hG hS ht_bj (by decide) (fun _ => Iff.rfl) tk_no (I := 2) (by decide) (by decide) (by decide) (show 0 ≤ (v99 : Int32).toInt ∧ (v99 : Int32).toInt ≤ 9 from ⟨by omega, by omega⟩) (tk_w.of ht_bj (by decide) (List.mem_of_getElem? (i := 0) rfl) (Nat.le_refl _) (Nat.le_refl _)) dX3_joinMore_128 hj0_4 (fun H locs hG hS hq9 hj791 => ?_)
                have hj791 : tk_c H bj 4 (upd f102 (2 : Int32).toNatClampNeg v99) := hj791
                have hj0_0 := hj0_0.kept (hq9 _ (tk_ne ht_a0 ht_bj (Or.inl (by decide))))
                have hj0_1 := hj0_1.kept (hq9 _ (tk_ne ht_a0 ht_bj (Or.inl (by decide))))
                have hj0_2 := hj0_2.kept (hq9 _ (tk_ne ht_a0 ht_bj (Or.inl (by decide))))
                have hj0_3 := hj0_3.kept (hq9 _ (tk_ne ht_a0 ht_bj (Or.inl (by decide))))
                have hj0_5 := hj0_5.kept (hq9 _ (tk_ne ht_bb ht_bj (Or.inl (by decide))))
                have hj1_0 := hj1_0.kept (hq9 _ (tk_ne ht_ld20 ht_bj (Or.inl (by decide))))
                have hj1_1 := hj1_1.kept (hq9 _ (tk_ne ht_ld20 ht_bj (Or.inl (by decide))))
                have hj1_2 := hj1_2.kept (hq9 _ (tk_ne ht_ld20 ht_bj (Or.inl (by decide))))
                have hj1_3 := hj1_3.kept (hq9 _ (tk_ne ht_ld20 ht_bj (Or.inl (by decide))))
                have hj1_4 := hj1_4.kept (hq9 _ (tk_ne ht_ld70 ht_bj (Or.inl (by decide))))
                have hj1_5 := hj1_5.kept (hq9 _ (tk_ne ht_ld80 ht_bj (Or.inl (by decide))))
                have hj1_6 := hj1_6.kept (hq9 _ (tk_ne ht_ld90 ht_bj (Or.inl (by decide))))
                have hj1_7 := hj1_7.kept (hq9 _ (tk_ne ht_ld100 ht_bj (Or.inl (by decide))))
                have hj1_8 := hj1_8.kept (hq9 _ (tk_ne ht_ld110 ht_bj (Or.inl (by decide))))
                have hj1_9 := hj1_9.kept (hq9 _ (tk_ne ht_ld120 ht_bj (Or.inl (by decide))))
                refine lv_iload_n hx hb dX3_joinMore_129 rfl (lv_at hl 5 rfl) ?_
                refine lv_aload_n hx hb dX3_joinMore_130 rfl (lv_at hl 2 rfl) ?_
                refine tk_get (ci := 3) (C := RX3) (T := TX3) (N := 5) (sp := (8, 20, 3, 0)) hx hb htl inX3 hown hK hG ht_a0 (by decide) tk_no rfl 0 (by decide) (htl _ mw_175) (fun _ h9 => h9) rfl dX3_joinMore_131 (fun v9 hf792 hV9 => ?_)
                obtain ⟨rfl, ht_ld20⟩ := hV9
                have ht_ld20 : t (ld 20) = (3, 0, 0) := ht_ld20
                refine fx_top (v := .ref (ld 20)) rfl ?_
                refine tk_get (ci := 2) (C := RX2) (T := TX2) (N := 20) (sp := (11, 100, 35, 10)) hx hb htl inX2 hown hK hG ht_ld20 (by decide) tk_no rfl 8 (by decide) (htl _ mw_1465) (fun _ h9 => h9) rfl dX3_joinMore_134 (fun v9 hf793 hV9 => ?_)
                obtain ⟨rfl, ht_ld100⟩ := hV9
                have ht_ld100 : t (ld 100) = (35, 10, 0) := ht_ld100
                refine fx_top (v := .ref (ld 100)) rfl ?_
                refine lv_iload hx hb dX3_joinMore_137 (lv_at hl 1 rfl) ?_
                refine tk_iald hx hb hK hG ht_ld100 (by decide) (fun _ h => h) tk_no rfl (by omega) (by omega) dX3_joinMore_139 (fun v794 _ hz9 => ?_)
                have hr_v794 := tk_rng v794
                have ev_v794 : v794 = q1 v99.toNatClampNeg := hj1_7.at hz9 (by have h9 : v99.toNatClampNeg = v99.toInt.toNat := rfl; omega)
                have he_v794 : 1 ≤ v794.toInt ∧ v794.toInt ≤ 99 := by rw [ev_v794]; exact (hqr v99.toInt.toNat (by omega)).1
                refine lv_iadd hx hb dX3_joinMore_140 ?_
                refine tk_add rfl rfl (by omega) (by omega) (fun v795 h_v795 => ?_)
                refine lv_iload hx hb dX3_joinMore_141 (lv_at hl 0 rfl) ?_
                refine lv_if_eq (tgt := 150) hx hb dX3_joinMore_143 (by decide) (fun _ => ?_) (fun c9 => absurd (by decide) c9)
                refine lv_iconst (v := 0) hx hb dX3_joinMore_150 (by decide) ?_
                refine lv_iadd hx hb dX3_joinMore_151 ?_
                refine tk_add rfl (show (0 : Int32).toInt = 0 by decide) (by omega) (by omega) (fun v796 h_v796 => ?_)
                refine lv_istore (lv' := [(7, .int v796), (6, .int 0), (5, .int v99), (0, .ref a0), (1, .int 2), (2, .int p2), (3, .int p3), (4, .int p4)]) hx hb dX3_joinMore_152 hl (by decide) rfl (fun ls hl => ?_)
                refine lv_aload_n hx hb dX3_joinMore_154 rfl (lv_at hl 3 rfl) ?_
                refine lv_iload_n hx hb dX3_joinMore_155 rfl (lv_at hl 4 rfl) ?_
                refine lv_iconst (v := 1) hx hb dX3_joinMore_156 (by decide) ?_
                refine lv_iadd hx hb dX3_joinMore_157 ?_
                refine fx_ti (v := 3) (by decide) ?_
                refine lv_iload_n hx hb dX3_joinMore_158 rfl (lv_at hl 5 rfl) ?_
                refine lv_iconst (v := 1) hx hb dX3_joinMore_159 (by decide) ?_
                refine lv_iload hx hb dX3_joinMore_160 (lv_at hl 2 rfl) ?_
                obtain ⟨v797, hm_v797⟩ : ∃ z : Int32, (1 : Int32) <<< (v99 &&& 31) = z := ⟨_, rfl⟩
                refine lv_ishl hx hb dX3_joinMore_162 ?_
                refine fx_ti hm_v797 ?_
                have hq_v797 := tk_rng v797
                obtain ⟨v798, hm_v798⟩ : ∃ z : Int32, p2 ||| v797 = z := ⟨_, rfl⟩
                refine lv_ior hx hb dX3_joinMore_163 ?_
                refine fx_ti hm_v798 ?_
                have hq_v798 := tk_rng v798
                refine lv_iload hx hb dX3_joinMore_164 (lv_at hl 0 rfl) ?_
                refine lv_iload hx hb dX3_joinMore_166 (lv_at hl 7 rfl) ?_
                refine lv_aload_n hx hb dX3_joinMore_168 rfl (lv_at hl 3 rfl) ?_
                refine tk_get (ci := 3) (C := RX3) (T := TX3) (N := 5) (sp := (8, 20, 3, 0)) hx hb htl inX3 hown hK hG ht_a0 (by decide) tk_no rfl 0 (by decide) (htl _ mw_175) (fun _ h9 => h9) rfl dX3_joinMore_169 (fun v9 hf799 hV9 => ?_)
                obtain ⟨rfl, ht_ld20⟩ := hV9
                have ht_ld20 : t (ld 20) = (3, 0, 0) := ht_ld20
                refine fx_top (v := .ref (ld 20)) rfl ?_
                refine tk_get (ci := 2) (C := RX2) (T := TX2) (N := 20) (sp := (11, 120, 37, 10)) hx hb htl inX2 hown hK hG ht_ld20 (by decide) tk_no rfl 10 (by decide) (htl _ mw_1463) (fun _ h9 => h9) rfl dX3_joinMore_172 (fun v9 hf800 hV9 => ?_)
                obtain ⟨rfl, ht_ld120⟩ := hV9
                have ht_ld120 : t (ld 120) = (37, 10, 0) := ht_ld120
                refine fx_top (v := .ref (ld 120)) rfl ?_
                refine lv_iload hx hb dX3_joinMore_175 (lv_at hl 2 rfl) ?_
                refine tk_iald hx hb hK hG ht_ld120 (by decide) (fun _ h => h) tk_no rfl (by omega) (by omega) dX3_joinMore_177 (fun v801 _ hz9 => ?_)
                have hr_v801 := tk_rng v801
                have ev_v801 : v801 = q3 v99.toNatClampNeg := hj1_9.at hz9 (by have h9 : v99.toNatClampNeg = v99.toInt.toNat := rfl; omega)
                have he_v801 : 1 ≤ v801.toInt ∧ v801.toInt ≤ 9 := by rw [ev_v801]; exact (hqr v99.toInt.toNat (by omega)).2
                have hee_v801 : v801.toInt = v779.toInt := congrArg Int32.toInt (ev_v801.trans ev_v779.symm)
                have hle_v801 : v801.toInt ≤ p4.toInt := by omega
                refine lv_isub hx hb dX3_joinMore_178 ?_
                refine tk_sub rfl rfl (by omega) (by omega) (fun v802 h_v802 => ?_)
                have hk_3 : (3 : Int32).toInt = 3 := by decide
                have hzr_v784 := mU_at hmu hag (j := 1) (by decide)
                have hzr_v784 : 0 ≤ v784.toInt ∧ v784.toInt < n2.toInt := by rw [ev_v784]; exact hzr_v784
                refine tk_Vv (As := [.int 3, .int v798, .int v796, .int v802]) (rest := []) (ci := 3) ⟨hx, hb, hml, hown, hts⟩ hK hG hZ hS (k_X3_joinMore_3_x l D cy ld t a0 v798 v796 v802 LL bj bb v100 v101 (upd f102 (2 : Int32).toNatClampNeg v99) f103 n0 n1 n2 n3 fh fs fk q1 q2 q3 ht_a0 ht_bj ht_bb ht_ld20 ht_ld70 ht_ld80 ht_ld90 ht_ld100 ht_ld110 ht_ld120 (by omega) (by omega) (by omega) (by omega) (by omega) (by omega) (by omega) (by omega) (by omega) (by omega) (by omega) (by omega) (by omega) (by omega) hqr (mU_next hmu hag (by omega) (by omega) (by omega) (by rw [hm_v773, hm_v774]; omega) (by rw [hm_v797, hm_v798]) ((mq_at (show ((v99.toInt.toNat : Nat) : Int) < n2.toInt by omega)).trans ev_v794.symm) ((mq_at (show ((v99.toInt.toNat : Nat) : Int) < n2.toInt by omega)).trans ev_v801.symm) (by decide) (mBon_n (by decide) (by decide) rfl ev_v784 (by have e7 : mq n2.toInt q2 v99.toInt.toNat = v788 := (mq_at (by omega)).trans ev_v788.symm; have e8 : mq n2.toInt q2 v784.toInt.toNat = v785 := (mq_at (by omega)).trans ev_v785.symm; rw [e7, e8]; intro h9; have h8 := congrArg Int32.toInt h9; omega)) (by omega) (by omega))) ⟨⟨hj0_0, hj0_1, hj0_2, hj0_3, hj791, hj0_5⟩, ⟨hj1_0, hj1_1, hj1_2, hj1_3, hj1_4, hj1_5, hj1_6, hj1_7, hj1_8, hj1_9⟩⟩ ⟨callB_of 4 hts (wl_in mw_1460) rfl rfl rfl (htl _ mw_48) (htl _ mw_1457) hd_yX3_joinMore ⟨(Nat.le_of_ble_eq_true rfl), (Nat.le_of_ble_eq_true rfl)⟩, htl _ mw_1458, htl _ mw_1459⟩ ht_a0 (by decide) tk_no rfl (tk_w.pick [0, 1, 2] rfl) rfl hl.1 rfl (Nat.le_of_ble_eq_true rfl) dX3_joinMore_179 ⟨(Nat.le_of_ble_eq_true rfl), (Nat.le_of_ble_eq_true rfl)⟩ (fun H locs hpo hG hS hq9 => ?_)
                have hj1_0 := hj1_0.call hq9 (tk_w.no ht_ld20 (by decide))
                have hj1_1 := hj1_1.call hq9 (tk_w.no ht_ld20 (by decide))
                have hj1_2 := hj1_2.call hq9 (tk_w.no ht_ld20 (by decide))
                have hj1_3 := hj1_3.call hq9 (tk_w.no ht_ld20 (by decide))
                have hj1_4 := hj1_4.call hq9 (tk_w.no ht_ld70 (by decide))
                have hj1_5 := hj1_5.call hq9 (tk_w.no ht_ld80 (by decide))
                have hj1_6 := hj1_6.call hq9 (tk_w.no ht_ld90 (by decide))
                have hj1_7 := hj1_7.call hq9 (tk_w.no ht_ld100 (by decide))
                have hj1_8 := hj1_8.call hq9 (tk_w.no ht_ld110 (by decide))
                have hj1_9 := hj1_9.call hq9 (tk_w.no ht_ld120 (by decide))
                obtain ⟨hraw804, ⟨hj805, hj806, hj807, hj808, hj809, hj810, hj811, hj812, hj813, hj814⟩⟩ := hpo
                obtain ⟨v821, v822, f823, f824, ⟨hM_815, hM_816, hM_817, hM_818, hM_819, hM_820⟩, ⟨hlo_v821, hhi_v821⟩, hg825, hP826⟩ := hraw804
                have hq_v822 := tk_rng v822
                obtain ⟨v827, h_v827, e_v827⟩ := tk_inc v99 1 (by decide) (by omega) (by omega)
                refine lv_iinc (v := v827) (lv' := [(5, .int v827), (7, .int v796), (6, .int 0), (0, .ref a0), (1, .int 2), (2, .int p2), (3, .int p3), (4, .int p4)]) hx hb dX3_joinMore_182 hl (k := 2) rfl e_v827 (by decide) rfl (fun ls hl => ?_)
                refine lv_goto (tgt := 45) hx hb dX3_joinMore_185 (by decide) ?_
                exact ih_l770 v827 v821 v822 f823 f824 _ _ (by omega) (by omega) (by omega) (by omega) (by omega) hG hS hM_815 hM_816 hM_817 hM_818 hM_819 hM_820 hj805 hj806 hj807 hj808 hj809 hj810 hj811 hj812 hj813 hj814 (mI_child (by omega) hmI9 (by omega) (by omega) (by omega) hmu.1 (mU_free hmu (by omega) (by omega) (by rw [hm_v773, hm_v774]; omega)) (by have h7 := hmu.2.2.2.1; have e7 : mq n2.toInt q3 v99.toInt.toNat = v779 := (mq_at (by omega)).trans ev_v779.symm; rw [e7]; omega) rfl hag (by decide) (by decide) hP826) ((hg825.mono (by decide)).trans (hag.pd (by decide))) _ (lv_sub hl [0, 3, 4, 5, 6, 7] rfl)
              · have hc789 : v785.toInt = v788.toInt := (fi_eq rfl rfl).mp c9
                refine lv_iconst (v := 1) hx hb dX3_joinMore_114 (by decide) ?_
                refine lv_goto (tgt := 119) hx hb dX3_joinMore_115 (by decide) ?_
                refine lv_istore (lv' := [(6, .int 1), (5, .int v99), (0, .ref a0), (1, .int 2), (2, .int p2), (3, .int p3), (4, .int p4)]) hx hb dX3_joinMore_119 hl (by decide) rfl (fun ls hl => ?_)
                refine lv_aload_n hx hb dX3_joinMore_121 rfl (lv_at hl 2 rfl) ?_
                refine tk_getk (ci := 3) (C := RX3) (T := TX3) (N := 5) (sp := (6, 22, 4, 0)) hx hb htl inX3 hown hK hG ht_a0 (by decide) tk_no rfl 1 (by decide) (htl _ mw_173) (fun _ h9 => h9) rfl hj0_0 dX3_joinMore_122 ?_
                refine lv_iload_n hx hb dX3_joinMore_125 rfl (lv_at hl 3 rfl) ?_
                refine lv_iload hx hb dX3_joinMore_126 (lv_at hl 1 rfl) ?_
                refine tk_iastC hx hb hK hG hS ht_bj (by decide) (fun _ => Iff.rfl) tk_no (I := 2) (by decide) (by decide) (by decide) (show 0 ≤ (v99 : Int32).toInt ∧ (v99 : Int32).toInt ≤ 9 from ⟨by omega, by omega⟩) (tk_w.of ht_bj (by decide) (List.mem_of_getElem? (i := 0) rfl) (Nat.le_refl _) (Nat.le_refl _)) dX3_joinMore_128 hj0_4 (fun H locs hG hS hq9 hj829 => ?_)
                have hj829 : tk_c H bj 4 (upd f102 (2 : Int32).toNatClampNeg v99) := hj829
                have hj0_0 := hj0_0.kept (hq9 _ (tk_ne ht_a0 ht_bj (Or.inl (by decide))))
                have hj0_1 := hj0_1.kept (hq9 _ (tk_ne ht_a0 ht_bj (Or.inl (by decide))))
                have hj0_2 := hj0_2.kept (hq9 _ (tk_ne ht_a0 ht_bj (Or.inl (by decide))))
                have hj0_3 := hj0_3.kept (hq9 _ (tk_ne ht_a0 ht_bj (Or.inl (by decide))))
                have hj0_5 := hj0_5.kept (hq9 _ (tk_ne ht_bb ht_bj (Or.inl (by decide))))
                have hj1_0 := hj1_0.kept (hq9 _ (tk_ne ht_ld20 ht_bj (Or.inl (by decide))))
                have hj1_1 := hj1_1.kept (hq9 _ (tk_ne ht_ld20 ht_bj (Or.inl (by decide))))
                have hj1_2 := hj1_2.kept (hq9 _ (tk_ne ht_ld20 ht_bj (Or.inl (by decide))))
                have hj1_3 := hj1_3.kept (hq9 _ (tk_ne ht_ld20 ht_bj (Or.inl (by decide))))
                have hj1_4 := hj1_4.kept (hq9 _ (tk_ne ht_ld70 ht_bj (Or.inl (by decide))))
                have hj1_5 := hj1_5.kept (hq9 _ (tk_ne ht_ld80 ht_bj (Or.inl (by decide))))
                have hj1_6 := hj1_6.kept (hq9 _ (tk_ne ht_ld90 ht_bj (Or.inl (by decide))))
                have hj1_7 := hj1_7.kept (hq9 _ (tk_ne ht_ld100 ht_bj (Or.inl (by decide))))
                have hj1_8 := hj1_8.kept (hq9 _ (tk_ne ht_ld110 ht_bj (Or.inl (by decide))))
                have hj1_9 := hj1_9.kept (hq9 _ (tk_ne ht_ld120 ht_bj (Or.inl (by decide))))
                refine lv_iload_n hx hb dX3_joinMore_129 rfl (lv_at hl 5 rfl) ?_
                refine lv_aload_n hx hb dX3_joinMore_130 rfl (lv_at hl 2 rfl) ?_
                refine tk_get (ci := 3) (C := RX3) (T := TX3) (N := 5) (sp := (8, 20, 3, 0)) hx hb htl inX3 hown hK hG ht_a0 (by decide) tk_no rfl 0 (by decide) (htl _ mw_175) (fun _ h9 => h9) rfl dX3_joinMore_131 (fun v9 hf830 hV9 => ?_)
                obtain ⟨rfl, ht_ld20⟩ := hV9
                have ht_ld20 : t (ld 20) = (3, 0, 0) := ht_ld20
                refine fx_top (v := .ref (ld 20)) rfl ?_
                refine tk_get (ci := 2) (C := RX2) (T := TX2) (N := 20) (sp := (11, 100, 35, 10)) hx hb htl inX2 hown hK hG ht_ld20 (by decide) tk_no rfl 8 (by decide) (htl _ mw_1465) (fun _ h9 => h9) rfl dX3_joinMore_134 (fun v9 hf831 hV9 => ?_)
                obtain ⟨rfl, ht_ld100⟩ := hV9
                have ht_ld100 : t (ld 100) = (35, 10, 0) := ht_ld100
                refine fx_top (v := .ref (ld 100)) rfl ?_
                refine lv_iload hx hb dX3_joinMore_137 (lv_at hl 1 rfl) ?_
                refine tk_iald hx hb hK hG ht_ld100 (by decide) (fun _ h => h) tk_no rfl (by omega) (by omega) dX3_joinMore_139 (fun v832 _ hz9 => ?_)
                have hr_v832 := tk_rng v832
                have ev_v832 : v832 = q1 v99.toNatClampNeg := hj1_7.at hz9 (by have h9 : v99.toNatClampNeg = v99.toInt.toNat := rfl; omega)
                have he_v832 : 1 ≤ v832.toInt ∧ v832.toInt ≤ 99 := by rw [ev_v832]; exact (hqr v99.toInt.toNat (by omega)).1
                refine lv_iadd hx hb dX3_joinMore_140 ?_
                refine tk_add rfl rfl (by omega) (by omega) (fun v833 h_v833 => ?_)
                refine lv_iload hx hb dX3_joinMore_141 (lv_at hl 0 rfl) ?_
                refine lv_if_eq (tgt := 150) hx hb dX3_joinMore_143 (by decide) (fun c9 => absurd c9 (by decide)) (fun _ => ?_)
                refine lv_iconst (v := 3) hx hb dX3_joinMore_146 (by decide) ?_
                refine lv_goto (tgt := 151) hx hb dX3_joinMore_147 (by decide) ?_
                refine lv_iadd hx hb dX3_joinMore_151 ?_
                refine tk_add rfl (show (3 : Int32).toInt = 3 by decide) (by omega) (by omega) (fun v834 h_v834 => ?_)
                refine lv_istore (lv' := [(7, .int v834), (6, .int 1), (5, .int v99), (0, .ref a0), (1, .int 2), (2, .int p2), (3, .int p3), (4, .int p4)]) hx hb dX3_joinMore_152 hl (by decide) rfl (fun ls hl => ?_)
                refine lv_aload_n hx hb dX3_joinMore_154 rfl (lv_at hl 3 rfl) ?_
                refine lv_iload_n hx hb dX3_joinMore_155 rfl (lv_at hl 4 rfl) ?_
                refine lv_iconst (v := 1) hx hb dX3_joinMore_156 (by decide) ?_
                refine lv_iadd hx hb dX3_joinMore_157 ?_
                refine fx_ti (v := 3) (by decide) ?_
                refine lv_iload_n hx hb dX3_joinMore_158 rfl (lv_at hl 5 rfl) ?_
                refine lv_iconst (v := 1) hx hb dX3_joinMore_159 (by decide) ?_
                refine lv_iload hx hb dX3_joinMore_160 (lv_at hl 2 rfl) ?_
                obtain ⟨v835, hm_v835⟩ : ∃ z : Int32, (1 : Int32) <<< (v99 &&& 31) = z := ⟨_, rfl⟩
                refine lv_ishl hx hb dX3_joinMore_162 ?_
                refine fx_ti hm_v835 ?_
                have hq_v835 := tk_rng v835
                obtain ⟨v836, hm_v836⟩ : ∃ z : Int32, p2 ||| v835 = z := ⟨_, rfl⟩
                refine lv_ior hx hb dX3_joinMore_163 ?_
                refine fx_ti hm_v836 ?_
                have hq_v836 := tk_rng v836
                refine lv_iload hx hb dX3_joinMore_164 (lv_at hl 0 rfl) ?_
                refine lv_iload hx hb dX3_joinMore_166 (lv_at hl 7 rfl) ?_
                refine lv_aload_n hx hb dX3_joinMore_168 rfl (lv_at hl 3 rfl) ?_
                refine tk_get (ci := 3) (C := RX3) (T := TX3) (N := 5) (sp := (8, 20, 3, 0)) hx hb htl inX3 hown hK hG ht_a0 (by decide) tk_no rfl 0 (by decide) (htl _ mw_175) (fun _ h9 => h9) rfl dX3_joinMore_169 (fun v9 hf837 hV9 => ?_)
                obtain ⟨rfl, ht_ld20⟩ := hV9
                have ht_ld20 : t (ld 20) = (3, 0, 0) := ht_ld20
                refine fx_top (v := .ref (ld 20)) rfl ?_
                refine tk_get (ci := 2) (C := RX2) (T := TX2) (N := 20) (sp := (11, 120, 37, 10)) hx hb htl inX2 hown hK hG ht_ld20 (by decide) tk_no rfl 10 (by decide) (htl _ mw_1463) (fun _ h9 => h9) rfl dX3_joinMore_172 (fun v9 hf838 hV9 => ?_)
                obtain ⟨rfl, ht_ld120⟩ := hV9
                have ht_ld120 : t (ld 120) = (37, 10, 0) := ht_ld120
                refine fx_top (v := .ref (ld 120)) rfl ?_
                refine lv_iload hx hb dX3_joinMore_175 (lv_at hl 2 rfl) ?_
                refine tk_iald hx hb hK hG ht_ld120 (by decide) (fun _ h => h) tk_no rfl (by omega) (by omega) dX3_joinMore_177 (fun v839 _ hz9 => ?_)
                have hr_v839 := tk_rng v839
                have ev_v839 : v839 = q3 v99.toNatClampNeg := hj1_9.at hz9 (by have h9 : v99.toNatClampNeg = v99.toInt.toNat := rfl; omega)
                have he_v839 : 1 ≤ v839.toInt ∧ v839.toInt ≤ 9 := by rw [ev_v839]; exact (hqr v99.toInt.toNat (by omega)).2
                have hee_v839 : v839.toInt = v779.toInt := congrArg Int32.toInt (ev_v839.trans ev_v779.symm)
                have hle_v839 : v839.toInt ≤ p4.toInt := by omega
                refine lv_isub hx hb dX3_joinMore_178 ?_
                refine tk_sub rfl rfl (by omega) (by omega) (fun v840 h_v840 => ?_)
                have hk_3 : (3 : Int32).toInt = 3 := by decide
                have hzr_v784 := mU_at hmu hag (j := 1) (by decide)
                have hzr_v784 : 0 ≤ v784.toInt ∧ v784.toInt < n2.toInt := by rw [ev_v784]; exact hzr_v784
                refine tk_Vv (As := [.int 3, .int v836, .int v834, .int v840]) (rest := []) (ci := 3) ⟨hx, hb, hml, hown, hts⟩ hK hG hZ hS (k_X3_joinMore_3_x l D cy ld t a0 v836 v834 v840 LL bj bb v100 v101 (upd f102 (2 : Int32).toNatClampNeg v99) f103 n0 n1 n2 n3 fh fs fk q1 q2 q3 ht_a0 ht_bj ht_bb ht_ld20 ht_ld70 ht_ld80 ht_ld90 ht_ld100 ht_ld110 ht_ld120 (by omega) (by omega) (by omega) (by omega) (by omega) (by omega) (by omega) (by omega) (by omega) (by omega) (by omega) (by omega) (by omega) (by omega) hqr (mU_next hmu hag (by omega) (by omega) (by omega) (by rw [hm_v773, hm_v774]; omega) (by rw [hm_v835, hm_v836]) ((mq_at (show ((v99.toInt.toNat : Nat) : Int) < n2.toInt by omega)).trans ev_v832.symm) ((mq_at (show ((v99.toInt.toNat : Nat) : Int) < n2.toInt by omega)).trans ev_v839.symm) (by decide) (mBon_y (by decide) (by decide) rfl ev_v784 (by have e7 : mq n2.toInt q2 v99.toInt.toNat = v788 := (mq_at (by omega)).trans ev_v788.symm; have e8 : mq n2.toInt q2 v784.toInt.toNat = v785 := (mq_at (by omega)).trans ev_v785.symm; rw [e7, e8]; exact m_eq (by omega))) (by omega) (by omega))) ⟨⟨hj0_0, hj0_1, hj0_2, hj0_3, hj829, hj0_5⟩, ⟨hj1_0, hj1_1, hj1_2, hj1_3, hj1_4, hj1_5, hj1_6, hj1_7, hj1_8, hj1_9⟩⟩ ⟨callB_of 4 hts (wl_in mw_1460) rfl rfl rfl (htl _ mw_48) (htl _ mw_1457) hd_yX3_joinMore ⟨(Nat.le_of_ble_eq_true rfl), (Nat.le_of_ble_eq_true rfl)⟩, htl _ mw_1458, htl _ mw_1459⟩ ht_a0 (by decide) tk_no rfl (tk_w.pick [0, 1, 2] rfl) rfl hl.1 rfl (Nat.le_of_ble_eq_true rfl) dX3_joinMore_179 ⟨(Nat.le_of_ble_eq_true rfl), (Nat.le_of_ble_eq_true rfl)⟩ (fun H locs hpo hG hS hq9 => ?_)
                have hj1_0 := hj1_0.call hq9 (tk_w.no ht_ld20 (by decide))
                have hj1_1 := hj1_1.call hq9 (tk_w.no ht_ld20 (by decide))
                have hj1_2 := hj1_2.call hq9 (tk_w.no ht_ld20 (by decide))
                have hj1_3 := hj1_3.call hq9 (tk_w.no ht_ld20 (by decide))
                have hj1_4 := hj1_4.call hq9 (tk_w.no ht_ld70 (by decide))
                have hj1_5 := hj1_5.call hq9 (tk_w.no ht_ld80 (by decide))
                have hj1_6 := hj1_6.call hq9 (tk_w.no ht_ld90 (by decide))
                have hj1_7 := hj1_7.call hq9 (tk_w.no ht_ld100 (by decide))
                have hj1_8 := hj1_8.call hq9 (tk_w.no ht_ld110 (by decide))
                have hj1_9 := hj1_9.call hq9 (tk_w.no ht_ld120 (by decide))
                obtain ⟨hraw842, ⟨hj843, hj844, hj845, hj846, hj847, hj848, hj849, hj850, hj851, hj852⟩⟩ := hpo
                obtain ⟨v859, v860, f861, f862, ⟨hM_853, hM_854, hM_855, hM_856, hM_857, hM_858⟩, ⟨hlo_v859, hhi_v859⟩, hg863, hP864⟩ := hraw842
                have hq_v860 := tk_rng v860
                obtain ⟨v865, h_v865, e_v865⟩ := tk_inc v99 1 (by decide) (by omega) (by omega)
                refine lv_iinc (v := v865) (lv' := [(5, .int v865), (7, .int v834), (6, .int 1), (0, .ref a0), (1, .int 2), (2, .int p2), (3, .int p3), (4, .int p4)]) hx hb dX3_joinMore_182 hl (k := 2) rfl e_v865 (by decide) rfl (fun ls hl => ?_)
                refine lv_goto (tgt := 45) hx hb dX3_joinMore_185 (by decide) ?_
                exact ih_l770 v865 v859 v860 f861 f862 _ _ (by omega) (by omega) (by omega) (by omega) (by omega) hG hS hM_853 hM_854 hM_855 hM_856 hM_857 hM_858 hj843 hj844 hj845 hj846 hj847 hj848 hj849 hj850 hj851 hj852 (mI_child (by omega) hmI9 (by omega) (by omega) (by omega) hmu.1 (mU_free hmu (by omega) (by omega) (by rw [hm_v773, hm_v774]; omega)) (by have h7 := hmu.2.2.2.1; have e7 : mq n2.toInt q3 v99.toInt.toNat = v779 := (mq_at (by omega)).trans ev_v779.symm; rw [e7]; omega) rfl hag (by decide) (by decide) hP864) ((hg863.mono (by decide)).trans (hag.pd (by decide))) _ (lv_sub hl [0, 3, 4, 5, 6, 7] rfl)
    have hk_0 : (0 : Int32).toInt = 0 := by decide
    have hk_0 : (0 : Int32).toInt = 0 := by decide
    exact hl770 11 0 bl bs J B _ _ (by omega) (by omega) (by omega) (by omega) (by omega) hG hS hj0_0 hj0_1 hj0_2 hj0_3 hj0_4 hj0_5 hj1_0 hj1_1 hj1_2 hj1_3 hj1_4 hj1_5 hj1_6 hj1_7 hj1_8 hj1_9 (mI_nt (by decide) (Or.inr (by have h7 := hmu.2.2.1; show _ ≤ bs.toInt; omega))) (mAg.refl _ _) _ (lv_sub hl [0, 1, 2, 3, 4, 5] rfl)
  · have hc1 : ¬ (p3.toInt ≤ bs.toInt) := fun h9 => c9 ((fi_le rfl rfl).mpr h9)
    refine lv_aload_n hx hb dX3_joinMore_12 rfl (lv_at hl 0 rfl) ?_
    refine lv_iload_n hx hb dX3_joinMore_13 rfl (lv_at hl 3 rfl) ?_
    refine tk_put (ci := 3) (v := .int p3) (ty := .int) (C := RX3) (T := TX3) (N := 5) (sp := (0, (-2147483648), 2147483647, 0)) hx hb htl inX3 tyX3 tyX3_ok nmX3 hown hK hG hS ht_a0 (by decide) tk_no rfl 4 (by decide) (htl _ mw_1456) (fun _ h9 => h9) rfl (tyX3_ok 4 (by decide)) rfl rfl rfl (tk_V0 (tk_rng _).1 (tk_rng _).2) (fun _ h => h) (tk_w.of ht_a0 (by decide) (List.mem_of_getElem? (i := 1) rfl) (Nat.le_refl _) (Nat.le_refl _)) dX3_joinMore_14 (fun H locs hG hS hf866 hq9 hj9 => ?_)
    have hj0_0 := hj9 1 _ (by decide) (by decide) hj0_0
    have hj0_1 := hj9 2 _ (by decide) (by decide) hj0_1
    have hj0_2 := hj9 3 _ (by decide) (by decide) hj0_2
    have hj0_4 := hj0_4.kept (hq9 _ (tk_ne ht_bj ht_a0 (Or.inl (by decide))))
    have hj0_5 := hj0_5.kept (hq9 _ (tk_ne ht_bb ht_a0 (Or.inl (by decide))))
    have hj1_0 := hj1_0.kept (hq9 _ (tk_ne ht_ld20 ht_a0 (Or.inl (by decide))))
    have hj1_1 := hj1_1.kept (hq9 _ (tk_ne ht_ld20 ht_a0 (Or.inl (by decide))))
    have hj1_2 := hj1_2.kept (hq9 _ (tk_ne ht_ld20 ht_a0 (Or.inl (by decide))))
    have hj1_3 := hj1_3.kept (hq9 _ (tk_ne ht_ld20 ht_a0 (Or.inl (by decide))))
    have hj1_4 := hj1_4.kept (hq9 _ (tk_ne ht_ld70 ht_a0 (Or.inl (by decide))))
    have hj1_5 := hj1_5.kept (hq9 _ (tk_ne ht_ld80 ht_a0 (Or.inl (by decide))))
    have hj1_6 := hj1_6.kept (hq9 _ (tk_ne ht_ld90 ht_a0 (Or.inl (by decide))))
    have hj1_7 := hj1_7.kept (hq9 _ (tk_ne ht_ld100 ht_a0 (Or.inl (by decide))))
    have hj1_8 := hj1_8.kept (hq9 _ (tk_ne ht_ld110 ht_a0 (Or.inl (by decide))))
    have hj1_9 := hj1_9.kept (hq9 _ (tk_ne ht_ld120 ht_a0 (Or.inl (by decide))))
    refine lv_aload_n hx hb dX3_joinMore_17 rfl (lv_at hl 0 rfl) ?_
    refine lv_iload_n hx hb dX3_joinMore_18 rfl (lv_at hl 1 rfl) ?_
    refine tk_put (ci := 3) (v := .int 2) (ty := .int) (C := RX3) (T := TX3) (N := 5) (sp := (0, 0, 4, 0)) hx hb htl inX3 tyX3 tyX3_ok nmX3 hown hK hG hS ht_a0 (by decide) tk_no rfl 3 (by decide) (htl _ mw_1455) (fun _ h9 => h9) rfl (tyX3_ok 3 (by decide)) rfl rfl rfl (tk_V0 (by decide) (by decide)) (fun _ h => h) (tk_w.of ht_a0 (by decide) (List.mem_of_getElem? (i := 1) rfl) (Nat.le_refl _) (Nat.le_refl _)) dX3_joinMore_19 (fun H locs hG hS hf868 hq9 hj9 => ?_)
    have hj0_0 := hj9 1 _ (by decide) (by decide) hj0_0
    have hj0_1 := hj9 2 _ (by decide) (by decide) hj0_1
    have hj0_4 := hj0_4.kept (hq9 _ (tk_ne ht_bj ht_a0 (Or.inl (by decide))))
    have hj0_5 := hj0_5.kept (hq9 _ (tk_ne ht_bb ht_a0 (Or.inl (by decide))))
    have hj1_0 := hj1_0.kept (hq9 _ (tk_ne ht_ld20 ht_a0 (Or.inl (by decide))))
    have hj1_1 := hj1_1.kept (hq9 _ (tk_ne ht_ld20 ht_a0 (Or.inl (by decide))))
    have hj1_2 := hj1_2.kept (hq9 _ (tk_ne ht_ld20 ht_a0 (Or.inl (by decide))))
    have hj1_3 := hj1_3.kept (hq9 _ (tk_ne ht_ld20 ht_a0 (Or.inl (by decide))))
    have hj1_4 := hj1_4.kept (hq9 _ (tk_ne ht_ld70 ht_a0 (Or.inl (by decide))))
    have hj1_5 := hj1_5.kept (hq9 _ (tk_ne ht_ld80 ht_a0 (Or.inl (by decide))))
    have hj1_6 := hj1_6.kept (hq9 _ (tk_ne ht_ld90 ht_a0 (Or.inl (by decide))))
    have hj1_7 := hj1_7.kept (hq9 _ (tk_ne ht_ld100 ht_a0 (Or.inl (by decide))))
    have hj1_8 := hj1_8.kept (hq9 _ (tk_ne ht_ld110 ht_a0 (Or.inl (by decide))))
    have hj1_9 := hj1_9.kept (hq9 _ (tk_ne ht_ld120 ht_a0 (Or.inl (by decide))))
    have hf866 := hj9 4 _ (by decide) (by decide) hf866
    refine lv_aload_n hx hb dX3_joinMore_22 rfl (lv_at hl 0 rfl) ?_
    refine tk_getk (ci := 3) (C := RX3) (T := TX3) (N := 5) (sp := (6, 22, 4, 0)) hx hb htl inX3 hown hK hG ht_a0 (by decide) tk_no rfl 1 (by decide) (htl _ mw_173) (fun _ h9 => h9) rfl hj0_0 dX3_joinMore_23 ?_
    refine lv_iconst (v := 0) hx hb dX3_joinMore_26 (by decide) ?_
    refine lv_aload_n hx hb dX3_joinMore_27 rfl (lv_at hl 0 rfl) ?_
    refine tk_getk (ci := 3) (C := RX3) (T := TX3) (N := 5) (sp := (6, 20, 4, 0)) hx hb htl inX3 hown hK hG ht_a0 (by decide) tk_no rfl 2 (by decide) (htl _ mw_174) (fun _ h9 => h9) rfl hj0_1 dX3_joinMore_28 ?_
    refine lv_iconst (v := 0) hx hb dX3_joinMore_31 (by decide) ?_
    refine lv_iconst (v := 4) hx hb dX3_joinMore_32 (by decide) ?_
    refine tk_copyC (SP := 0) (DP := 0) (NC := 4) hx hb (by rw [hml]; exact hl.1.symm) hown (htl _ mw_1461) (htl _ mw_655) (htl _ mw_656) (htl _ mw_657) hK hG hS ht_bj ht_bb (by decide) (by decide) (fun _ h => h) (fun _ => Iff.rfl) tk_no tk_no (show (0 : Int32).toInt = 0 by decide) (show (0 : Int32).toInt = 0 by decide) (show (4 : Int32).toInt = 4 by decide) (by decide) (by decide) (by decide) (by decide) (by decide) (fun _ _ _ _ _ => trivial) (tk_w.of ht_bb (by decide) (List.mem_of_getElem? (i := 2) rfl) (Nat.le_refl _) (Nat.le_refl _)) (Nat.le_of_ble_eq_true rfl) (Nat.le_of_ble_eq_true rfl) dX3_joinMore_33 hj0_4 rfl rfl rfl (fun H locs hG hS hq9 hj871 => ?_)
    have hj0_0 := hj0_0.kept (hq9 _ (tk_ne ht_a0 ht_bb (Or.inl (by decide))))
    have hj0_1 := hj0_1.kept (hq9 _ (tk_ne ht_a0 ht_bb (Or.inl (by decide))))
    have hj0_4 := hj0_4.kept (hq9 _ (tk_ne ht_bj ht_bb (Or.inl (by decide))))
    have hj1_0 := hj1_0.kept (hq9 _ (tk_ne ht_ld20 ht_bb (Or.inl (by decide))))
    have hj1_1 := hj1_1.kept (hq9 _ (tk_ne ht_ld20 ht_bb (Or.inl (by decide))))
    have hj1_2 := hj1_2.kept (hq9 _ (tk_ne ht_ld20 ht_bb (Or.inl (by decide))))
    have hj1_3 := hj1_3.kept (hq9 _ (tk_ne ht_ld20 ht_bb (Or.inl (by decide))))
    have hj1_4 := hj1_4.kept (hq9 _ (tk_ne ht_ld70 ht_bb (Or.inl (by decide))))
    have hj1_5 := hj1_5.kept (hq9 _ (tk_ne ht_ld80 ht_bb (Or.inl (by decide))))
    have hj1_6 := hj1_6.kept (hq9 _ (tk_ne ht_ld90 ht_bb (Or.inl (by decide))))
    have hj1_7 := hj1_7.kept (hq9 _ (tk_ne ht_ld100 ht_bb (Or.inl (by decide))))
    have hj1_8 := hj1_8.kept (hq9 _ (tk_ne ht_ld110 ht_bb (Or.inl (by decide))))
    have hj1_9 := hj1_9.kept (hq9 _ (tk_ne ht_ld120 ht_bb (Or.inl (by decide))))
    have hf866 := hf866.kept (hq9 _ (tk_ne ht_a0 ht_bb (Or.inl (by decide))))
    have hf868 := hf868.kept (hq9 _ (tk_ne ht_a0 ht_bb (Or.inl (by decide))))
    refine lv_iload_n hx hb dX3_joinMore_36 rfl (lv_at hl 1 rfl) ?_
    refine lv_iconst (v := 4) hx hb dX3_joinMore_37 (by decide) ?_
    refine lv_icmp_lt (tgt := 42) hx hb dX3_joinMore_38 (by decide) (fun _ => ?_) (fun c9 => absurd (by decide) c9)
    refine lv_iconst (v := 0) hx hb dX3_joinMore_42 (by decide) ?_
    refine lv_istore (lv' := [(5, .int 0), (0, .ref a0), (1, .int 2), (2, .int p2), (3, .int p3), (4, .int p4)]) hx hb dX3_joinMore_43 hl (by decide) rfl (fun ls hl => ?_)
    have hl1640 : ∀ (N_l1640 : Nat) (v969 : Int32) (f970 : Nat → Int32) (v971 : Int32) (v972 : Int32) (f973 : Nat → Int32) (H : Heap) (locs : List Loc), v969.toInt ≤ 10 → 0 ≤ v969.toInt → 0 ≤ v972.toInt → v972.toInt ≤ 4 → (-1) * v969.toInt + 10 < (N_l1640 : Int) → tk_G D cy ld t [] H → va_S (tk_w t [(22, 0, 0), (4, 0, 0), (20, 0, 0)]) s.heap H locs → tk_f D H a0 3 1 (.ref bj) → tk_f D H a0 3 2 (.ref bb) → tk_c H bj 4 f970 → tk_f D H (ld 20) 2 0 (.int n0) → tk_f D H (ld 20) 2 4 (.int n1) → tk_f D H (ld 20) 2 7 (.int n2) → tk_f D H (ld 20) 2 11 (.int n3) → tk_c H (ld 70) 8 fh → tk_c H (ld 80) 10 fs → tk_c H (ld 90) 10 fk → tk_c H (ld 100) 10 q1 → tk_c H (ld 110) 10 q2 → tk_c H (ld 120) 10 q3 → tk_f D H a0 3 4 (.int v971) → tk_f D H a0 3 3 (.int v972) → tk_c H bb 4 f973 → mI n2.toInt LL (mq n2.toInt q1) (mq n2.toInt q2) (mq n2.toInt q3) 2 J (bs.toInt, bl.toInt, B) v969.toInt (v971.toInt, v972.toInt, f973) → mAg 2 f970 J → ∀ ls : Array Slot, lv_has ls 8 [(5, .int v969), (0, .ref a0), (1, .int 2), (2, .int p2), (3, .int p3), (4, .int p4)] → W p l e ({ frames := 6, cells := 0, slots := 0, locals := 350 }) s m args below meth c H locs 0 0 (MQ below (tv D cy ld t [] (fun H => (∃ (bl9 bs9 : Int32) (J9 B9 : Nat → Int32), jM D a0 bj bb bl9 bs9 J9 B9 H ∧ (0 ≤ bl9.toInt ∧ bl9.toInt ≤ 4) ∧ mAg 2 J9 J ∧ mP n2.toInt LL (mq n2.toInt q1) (mq n2.toInt q2) (mq n2.toInt q3) 2 J (bs.toInt, bl.toInt, B) (bs9.toInt, bl9.toInt, B9)) ∧ jC D ld (ld 20) 0 n0 n1 n2 n3 fh fs fk q1 q2 q3 H) (tk_w t [(22, 0, 0), (4, 0, 0), (20, 0, 0)])) args s 0 0 (tk_w t [(22, 0, 0), (4, 0, 0), (20, 0, 0)])) (F0 m 45 ls []) := by
      intro N_l1640
      induction N_l1640 with
      | zero => intro v969 f970 v971 v972 f973 H locs hq0_l1640 hq1_l1640 hq2_l1640 hq3_l1640 hm_l1640 hG hS hj0_0 hj0_1 hj0_4 hj1_0 hj1_1 hj1_2 hj1_3 hj1_4 hj1_5 hj1_6 hj1_7 hj1_8 hj1_9 hf866 hf868 hj871 hmI9 hag ls hl; exfalso; omega
      | succ N_l1640 ih_l1640 =>
        intro v969 f970 v971 v972 f973 H locs hq0_l1640 hq1_l1640 hq2_l1640 hq3_l1640 hm_l1640 hG hS hj0_0 hj0_1 hj0_4 hj1_0 hj1_1 hj1_2 hj1_3 hj1_4 hj1_5 hj1_6 hj1_7 hj1_8 hj1_9 hf866 hf868 hj871 hmI9 hag ls hl
        refine lv_iload hx hb dX3_joinMore_45 (lv_at hl 0 rfl) ?_
        refine lv_aload_n hx hb dX3_joinMore_47 rfl (lv_at hl 1 rfl) ?_
        refine tk_get (ci := 3) (C := RX3) (T := TX3) (N := 5) (sp := (8, 20, 3, 0)) hx hb htl inX3 hown hK hG ht_a0 (by decide) tk_no rfl 0 (by decide) (htl _ mw_175) (fun _ h9 => h9) rfl dX3_joinMore_48 (fun v9 hf1641 hV9 => ?_)
        obtain ⟨rfl, ht_ld20⟩ := hV9
        have ht_ld20 : t (ld 20) = (3, 0, 0) := ht_ld20
        refine fx_top (v := .ref (ld 20)) rfl ?_
        refine tk_getk (ci := 2) (C := RX2) (T := TX2) (N := 20) (sp := (0, 0, 10, 0)) hx hb htl inX2 hown hK hG ht_ld20 (by decide) tk_no rfl 7 (by decide) (htl _ mw_1462) (fun _ h9 => h9) rfl hj1_2 dX3_joinMore_51 ?_
        refine lv_icmp_ge (tgt := 188) hx hb dX3_joinMore_54 (by decide) (fun c9 => ?_) (fun c9 => ?_)
        · have hc1642 : n2.toInt ≤ v969.toInt := (fi_le rfl rfl).mp c9
          exact tk_vret hx hb hr hlocks (show (∃ (bl9 bs9 : Int32) (J9 B9 : Nat → Int32), jM D a0 bj bb bl9 bs9 J9 B9 H ∧ (0 ≤ bl9.toInt ∧ bl9.toInt ≤ 4) ∧ mAg 2 J9 J ∧ mP n2.toInt LL (mq n2.toInt q1) (mq n2.toInt q2) (mq n2.toInt q3) 2 J (bs.toInt, bl.toInt, B) (bs9.toInt, bl9.toInt, B9)) ∧ jC D ld (ld 20) 0 n0 n1 n2 n3 fh fs fk q1 q2 q3 H from ⟨⟨v972, v971, f970, f973, ⟨hj0_0, hj0_1, hf868, hf866, hj0_4, hj871⟩, ⟨by omega, by omega⟩, hag, (mI_end hmI9 (by omega) (by omega) (by omega))⟩, ⟨hj1_0, hj1_1, hj1_2, hj1_3, hj1_4, hj1_5, hj1_6, hj1_7, hj1_8, hj1_9⟩⟩) hG hS dX3_joinMore_188
        · have hc1642 : ¬ (n2.toInt ≤ v969.toInt) := fun h9 => c9 ((fi_le rfl rfl).mpr h9)
          refine lv_iload_n hx hb dX3_joinMore_57 rfl (lv_at hl 3 rfl) ?_
          refine lv_iload hx hb dX3_joinMore_58 (lv_at hl 0 rfl) ?_
          obtain ⟨v1643, hm_v1643⟩ : ∃ z : Int32, p2 >>> (v969 &&& 31) = z := ⟨_, rfl⟩
          refine lv_ishr hx hb dX3_joinMore_60 ?_
          refine fx_ti hm_v1643 ?_
          have hq_v1643 := tk_rng v1643
          refine lv_iconst (v := 1) hx hb dX3_joinMore_61 (by decide) ?_
          obtain ⟨v1644, hm_v1644⟩ : ∃ z : Int32, v1643 &&& (1 : Int32) = z := ⟨_, rfl⟩
          refine lv_iand hx hb dX3_joinMore_62 ?_
          refine fx_ti hm_v1644 ?_
          have h_v1644 : 0 ≤ v1644.toInt ∧ v1644.toInt ≤ 1 := hm_v1644 ▸ tk_and v1643 1 (by decide) (by decide)
          refine lv_if_ne (tgt := 182) hx hb dX3_joinMore_63 (by decide) (fun c9 => ?_) (fun c9 => ?_)
          · have hc1645 : ¬ (v1644.toInt = 0) := fun h9 => c9 ((fi_eq rfl (show (0 : Int32).toInt = 0 by decide)).mpr h9)
            obtain ⟨v1646, h_v1646, e_v1646⟩ := tk_inc v969 1 (by decide) (by omega) (by omega)
            refine lv_iinc (v := v1646) (lv' := [(5, .int v1646), (0, .ref a0), (1, .int 2), (2, .int p2), (3, .int p3), (4, .int p4)]) hx hb dX3_joinMore_182 hl (k := 0) rfl e_v1646 (by decide) rfl (fun ls hl => ?_)
            refine lv_goto (tgt := 45) hx hb dX3_joinMore_185 (by decide) ?_
            exact ih_l1640 v1646 f970 v971 v972 f973 _ _ (by omega) (by omega) (by omega) (by omega) (by omega) hG hS hj0_0 hj0_1 hj0_4 hj1_0 hj1_1 hj1_2 hj1_3 hj1_4 hj1_5 hj1_6 hj1_7 hj1_8 hj1_9 hf866 hf868 hj871 (mI_skip (by omega) hmI9 (by omega) (by omega) (by omega) (Or.inl (mU_used hmu (by omega) (by omega) (by rw [hm_v1643, hm_v1644]; omega)))) hag _ (lv_sub hl [0, 1, 2, 3, 4, 5] rfl)
          · have hc1645 : v1644.toInt = 0 := (fi_eq rfl (show (0 : Int32).toInt = 0 by decide)).mp c9
            refine lv_aload_n hx hb dX3_joinMore_66 rfl (lv_at hl 1 rfl) ?_
            refine tk_get (ci := 3) (C := RX3) (T := TX3) (N := 5) (sp := (8, 20, 3, 0)) hx hb htl inX3 hown hK hG ht_a0 (by decide) tk_no rfl 0 (by decide) (htl _ mw_175) (fun _ h9 => h9) rfl dX3_joinMore_67 (fun v9 hf1647 hV9 => ?_)
            obtain ⟨rfl, ht_ld20⟩ := hV9
            have ht_ld20 : t (ld 20) = (3, 0, 0) := ht_ld20
            refine fx_top (v := .ref (ld 20)) rfl ?_
            refine tk_get (ci := 2) (C := RX2) (T := TX2) (N := 20) (sp := (11, 120, 37, 10)) hx hb htl inX2 hown hK hG ht_ld20 (by decide) tk_no rfl 10 (by decide) (htl _ mw_1463) (fun _ h9 => h9) rfl dX3_joinMore_70 (fun v9 hf1648 hV9 => ?_)
            obtain ⟨rfl, ht_ld120⟩ := hV9
            have ht_ld120 : t (ld 120) = (37, 10, 0) := ht_ld120
            refine fx_top (v := .ref (ld 120)) rfl ?_
            refine lv_iload hx hb dX3_joinMore_73 (lv_at hl 0 rfl) ?_
            refine tk_iald hx hb hK hG ht_ld120 (by decide) (fun _ h => h) tk_no rfl (by omega) (by omega) dX3_joinMore_75 (fun v1649 _ hz9 => ?_)
            have hr_v1649 := tk_rng v1649
            have ev_v1649 : v1649 = q3 v969.toNatClampNeg := hj1_9.at hz9 (by have h9 : v969.toNatClampNeg = v969.toInt.toNat := rfl; omega)
            have he_v1649 : 1 ≤ v1649.toInt ∧ v1649.toInt ≤ 9 := by rw [ev_v1649]; exact (hqr v969.toInt.toNat (by omega)).2
            refine lv_iload hx hb dX3_joinMore_76 (lv_at hl 5 rfl) ?_
            refine lv_icmp_gt (tgt := 182) hx hb dX3_joinMore_78 (by decide) (fun c9 => ?_) (fun c9 => ?_)
            · have hc1650 : p4.toInt < v1649.toInt := (fi_lt rfl rfl).mp c9
              obtain ⟨v1651, h_v1651, e_v1651⟩ := tk_inc v969 1 (by decide) (by omega) (by omega)
              refine lv_iinc (v := v1651) (lv' := [(5, .int v1651), (0, .ref a0), (1, .int 2), (2, .int p2), (3, .int p3), (4, .int p4)]) hx hb dX3_joinMore_182 hl (k := 0) rfl e_v1651 (by decide) rfl (fun ls hl => ?_)
              refine lv_goto (tgt := 45) hx hb dX3_joinMore_185 (by decide) ?_
              exact ih_l1640 v1651 f970 v971 v972 f973 _ _ (by omega) (by omega) (by omega) (by omega) (by omega) hG hS hj0_0 hj0_1 hj0_4 hj1_0 hj1_1 hj1_2 hj1_3 hj1_4 hj1_5 hj1_6 hj1_7 hj1_8 hj1_9 hf866 hf868 hj871 (mI_skip (by omega) hmI9 (by omega) (by omega) (by omega) (Or.inr (by have h7 := hmu.2.2.2.1; have e7 : mq n2.toInt q3 v969.toInt.toNat = v1649 := (mq_at (by omega)).trans ev_v1649.symm; rw [e7]; omega))) hag _ (lv_sub hl [0, 1, 2, 3, 4, 5] rfl)
            · have hc1650 : ¬ (p4.toInt < v1649.toInt) := fun h9 => c9 ((fi_lt rfl rfl).mpr h9)
              refine lv_iload_n hx hb dX3_joinMore_81 rfl (lv_at hl 2 rfl) ?_
              refine lv_if_le (tgt := 118) hx hb dX3_joinMore_82 (by decide) (fun c9 => absurd c9 (by decide)) (fun _ => ?_)
              refine lv_aload_n hx hb dX3_joinMore_85 rfl (lv_at hl 1 rfl) ?_
              refine tk_get (ci := 3) (C := RX3) (T := TX3) (N := 5) (sp := (8, 20, 3, 0)) hx hb htl inX3 hown hK hG ht_a0 (by decide) tk_no rfl 0 (by decide) (htl _ mw_175) (fun _ h9 => h9) rfl dX3_joinMore_86 (fun v9 hf1652 hV9 => ?_)
              obtain ⟨rfl, ht_ld20⟩ := hV9
              have ht_ld20 : t (ld 20) = (3, 0, 0) := ht_ld20
              refine fx_top (v := .ref (ld 20)) rfl ?_
              refine tk_get (ci := 2) (C := RX2) (T := TX2) (N := 20) (sp := (11, 110, 36, 10)) hx hb htl inX2 hown hK hG ht_ld20 (by decide) tk_no rfl 9 (by decide) (htl _ mw_1464) (fun _ h9 => h9) rfl dX3_joinMore_89 (fun v9 hf1653 hV9 => ?_)
              obtain ⟨rfl, ht_ld110⟩ := hV9
              have ht_ld110 : t (ld 110) = (36, 10, 0) := ht_ld110
              refine fx_top (v := .ref (ld 110)) rfl ?_
              refine lv_aload_n hx hb dX3_joinMore_92 rfl (lv_at hl 1 rfl) ?_
              refine tk_getk (ci := 3) (C := RX3) (T := TX3) (N := 5) (sp := (6, 22, 4, 0)) hx hb htl inX3 hown hK hG ht_a0 (by decide) tk_no rfl 1 (by decide) (htl _ mw_173) (fun _ h9 => h9) rfl hj0_0 dX3_joinMore_93 ?_
              refine lv_iload_n hx hb dX3_joinMore_96 rfl (lv_at hl 2 rfl) ?_
              refine lv_iconst (v := 1) hx hb dX3_joinMore_97 (by decide) ?_
              refine lv_isub hx hb dX3_joinMore_98 ?_
              refine fx_ti (v := 1) (by decide) ?_
              refine tk_iald hx hb hK hG ht_bj (by decide) (fun _ h => h) tk_no (I := 1) (by decide) (by decide) (by decide) dX3_joinMore_99 (fun v1654 hE9 hz9 => ?_)
              have he_v1654 : 0 ≤ v1654.toInt ∧ v1654.toInt ≤ 9 := hE9
              have ev_v1654 : v1654 = f970 (1 : Int32).toNatClampNeg := hj0_4.at hz9 (by decide)
              refine tk_iald hx hb hK hG ht_ld110 (by decide) (fun _ h => h) tk_no rfl (by omega) (by omega) dX3_joinMore_100 (fun v1655 _ hz9 => ?_)
              have hr_v1655 := tk_rng v1655
              have ev_v1655 : v1655 = q2 v1654.toNatClampNeg := hj1_8.at hz9 (by have h9 : v1654.toNatClampNeg = v1654.toInt.toNat := rfl; omega)
              refine lv_aload_n hx hb dX3_joinMore_101 rfl (lv_at hl 1 rfl) ?_
              refine tk_get (ci := 3) (C := RX3) (T := TX3) (N := 5) (sp := (8, 20, 3, 0)) hx hb htl inX3 hown hK hG ht_a0 (by decide) tk_no rfl 0 (by decide) (htl _ mw_175) (fun _ h9 => h9) rfl dX3_joinMore_102 (fun v9 hf1656 hV9 => ?_)
              obtain ⟨rfl, ht_ld20⟩ := hV9
              have ht_ld20 : t (ld 20) = (3, 0, 0) := ht_ld20
              refine fx_top (v := .ref (ld 20)) rfl ?_
              refine tk_get (ci := 2) (C := RX2) (T := TX2) (N := 20) (sp := (11, 110, 36, 10)) hx hb htl inX2 hown hK hG ht_ld20 (by decide) tk_no rfl 9 (by decide) (htl _ mw_1464) (fun _ h9 => h9) rfl dX3_joinMore_105 (fun v9 hf1657 hV9 => ?_)
              obtain ⟨rfl, ht_ld110⟩ := hV9
              have ht_ld110 : t (ld 110) = (36, 10, 0) := ht_ld110
              refine fx_top (v := .ref (ld 110)) rfl ?_
              refine lv_iload hx hb dX3_joinMore_108 (lv_at hl 0 rfl) ?_
              refine tk_iald hx hb hK hG ht_ld110 (by decide) (fun _ h => h) tk_no rfl (by omega) (by omega) dX3_joinMore_110 (fun v1658 _ hz9 => ?_)
              have hr_v1658 := tk_rng v1658
              have ev_v1658 : v1658 = q2 v969.toNatClampNeg := hj1_8.at hz9 (by have h9 : v969.toNatClampNeg = v969.toInt.toNat := rfl; omega)
              refine lv_icmp_ne (tgt := 118) hx hb dX3_joinMore_111 (by decide) (fun c9 => ?_) (fun c9 => ?_)
              · have hc1659 : ¬ (v1655.toInt = v1658.toInt) := fun h9 => c9 ((fi_eq rfl rfl).mpr h9)
                refine lv_iconst (v := 0) hx hb dX3_joinMore_118 (by decide) ?_
                refine lv_istore (lv' := [(6, .int 0), (5, .int v969), (0, .ref a0), (1, .int 2), (2, .int p2), (3, .int p3), (4, .int p4)]) hx hb dX3_joinMore_119 hl (by decide) rfl (fun ls hl => ?_)
                refine lv_aload_n hx hb dX3_joinMore_121 rfl (lv_at hl 2 rfl) ?_
                refine tk_getk (ci := 3) (C := RX3) (T := TX3) (N := 5) (sp := (6, 22, 4, 0)) hx hb htl inX3 hown hK hG ht_a0 (by decide) tk_no rfl 1 (by decide) (htl _ mw_173) (fun _ h9 => h9) rfl hj0_0 dX3_joinMore_122 ?_
                refine lv_iload_n hx hb dX3_joinMore_125 rfl (lv_at hl 3 rfl) ?_
                refine lv_iload hx hb dX3_joinMore_126 (lv_at hl 1 rfl) ?_
                refine tk_iastC hx hb hK hG hS ht_bj (by decide) (fun _ => Iff.rfl) tk_no (I := 2) (by decide) (by decide) (by decide) (show 0 ≤ (v969 : Int32).toInt ∧ (v969 : Int32).toInt ≤ 9 from ⟨by omega, by omega⟩) (tk_w.of ht_bj (by decide) (List.mem_of_getElem? (i := 0) rfl) (Nat.le_refl _) (Nat.le_refl _)) dX3_joinMore_128 hj0_4 (fun H locs hG hS hq9 hj1661 => ?_)
                have hj1661 : tk_c H bj 4 (upd f970 (2 : Int32).toNatClampNeg v969) := hj1661
                have hj0_0 := hj0_0.kept (hq9 _ (tk_ne ht_a0 ht_bj (Or.inl (by decide))))
                have hj0_1 := hj0_1.kept (hq9 _ (tk_ne ht_a0 ht_bj (Or.inl (by decide))))
                have hj1_0 := hj1_0.kept (hq9 _ (tk_ne ht_ld20 ht_bj (Or.inl (by decide))))
                have hj1_1 := hj1_1.kept (hq9 _ (tk_ne ht_ld20 ht_bj (Or.inl (by decide))))
                have hj1_2 := hj1_2.kept (hq9 _ (tk_ne ht_ld20 ht_bj (Or.inl (by decide))))
                have hj1_3 := hj1_3.kept (hq9 _ (tk_ne ht_ld20 ht_bj (Or.inl (by decide))))
                have hj1_4 := hj1_4.kept (hq9 _ (tk_ne ht_ld70 ht_bj (Or.inl (by decide))))
                have hj1_5 := hj1_5.kept (hq9 _ (tk_ne ht_ld80 ht_bj (Or.inl (by decide))))
                have hj1_6 := hj1_6.kept (hq9 _ (tk_ne ht_ld90 ht_bj (Or.inl (by decide))))
                have hj1_7 := hj1_7.kept (hq9 _ (tk_ne ht_ld100 ht_bj (Or.inl (by decide))))
                have hj1_8 := hj1_8.kept (hq9 _ (tk_ne ht_ld110 ht_bj (Or.inl (by decide))))
                have hj1_9 := hj1_9.kept (hq9 _ (tk_ne ht_ld120 ht_bj (Or.inl (by decide))))
                have hf866 := hf866.kept (hq9 _ (tk_ne ht_a0 ht_bj (Or.inl (by decide))))
                have hf868 := hf868.kept (hq9 _ (tk_ne ht_a0 ht_bj (Or.inl (by decide))))
                have hj871 := hj871.kept (hq9 _ (tk_ne ht_bb ht_bj (Or.inl (by decide))))
                refine lv_iload_n hx hb dX3_joinMore_129 rfl (lv_at hl 5 rfl) ?_
                refine lv_aload_n hx hb dX3_joinMore_130 rfl (lv_at hl 2 rfl) ?_
                refine tk_get (ci := 3) (C := RX3) (T := TX3) (N := 5) (sp := (8, 20, 3, 0)) hx hb htl inX3 hown hK hG ht_a0 (by decide) tk_no rfl 0 (by decide) (htl _ mw_175) (fun _ h9 => h9) rfl dX3_joinMore_131 (fun v9 hf1662 hV9 => ?_)
                obtain ⟨rfl, ht_ld20⟩ := hV9
                have ht_ld20 : t (ld 20) = (3, 0, 0) := ht_ld20
                refine fx_top (v := .ref (ld 20)) rfl ?_
                refine tk_get (ci := 2) (C := RX2) (T := TX2) (N := 20) (sp := (11, 100, 35, 10)) hx hb htl inX2 hown hK hG ht_ld20 (by decide) tk_no rfl 8 (by decide) (htl _ mw_1465) (fun _ h9 => h9) rfl dX3_joinMore_134 (fun v9 hf1663 hV9 => ?_)
                obtain ⟨rfl, ht_ld100⟩ := hV9
                have ht_ld100 : t (ld 100) = (35, 10, 0) := ht_ld100
                refine fx_top (v := .ref (ld 100)) rfl ?_
                refine lv_iload hx hb dX3_joinMore_137 (lv_at hl 1 rfl) ?_
                refine tk_iald hx hb hK hG ht_ld100 (by decide) (fun _ h => h) tk_no rfl (by omega) (by omega) dX3_joinMore_139 (fun v1664 _ hz9 => ?_)
                have hr_v1664 := tk_rng v1664
                have ev_v1664 : v1664 = q1 v969.toNatClampNeg := hj1_7.at hz9 (by have h9 : v969.toNatClampNeg = v969.toInt.toNat := rfl; omega)
                have he_v1664 : 1 ≤ v1664.toInt ∧ v1664.toInt ≤ 99 := by rw [ev_v1664]; exact (hqr v969.toInt.toNat (by omega)).1
                refine lv_iadd hx hb dX3_joinMore_140 ?_
                refine tk_add rfl rfl (by omega) (by omega) (fun v1665 h_v1665 => ?_)
                refine lv_iload hx hb dX3_joinMore_141 (lv_at hl 0 rfl) ?_
                refine lv_if_eq (tgt := 150) hx hb dX3_joinMore_143 (by decide) (fun _ => ?_) (fun c9 => absurd (by decide) c9)
                refine lv_iconst (v := 0) hx hb dX3_joinMore_150 (by decide) ?_
                refine lv_iadd hx hb dX3_joinMore_151 ?_
                refine tk_add rfl (show (0 : Int32).toInt = 0 by decide) (by omega) (by omega) (fun v1666 h_v1666 => ?_)
                refine lv_istore (lv' := [(7, .int v1666), (6, .int 0), (5, .int v969), (0, .ref a0), (1, .int 2), (2, .int p2), (3, .int p3), (4, .int p4)]) hx hb dX3_joinMore_152 hl (by decide) rfl (fun ls hl => ?_)
                refine lv_aload_n hx hb dX3_joinMore_154 rfl (lv_at hl 3 rfl) ?_
                refine lv_iload_n hx hb dX3_joinMore_155 rfl (lv_at hl 4 rfl) ?_
                refine lv_iconst (v := 1) hx hb dX3_joinMore_156 (by decide) ?_
                refine lv_iadd hx hb dX3_joinMore_157 ?_
                refine fx_ti (v := 3) (by decide) ?_
                refine lv_iload_n hx hb dX3_joinMore_158 rfl (lv_at hl 5 rfl) ?_
                refine lv_iconst (v := 1) hx hb dX3_joinMore_159 (by decide) ?_
                refine lv_iload hx hb dX3_joinMore_160 (lv_at hl 2 rfl) ?_
                obtain ⟨v1667, hm_v1667⟩ : ∃ z : Int32, (1 : Int32) <<< (v969 &&& 31) = z := ⟨_, rfl⟩
                refine lv_ishl hx hb dX3_joinMore_162 ?_
                refine fx_ti hm_v1667 ?_
                have hq_v1667 := tk_rng v1667
                obtain ⟨v1668, hm_v1668⟩ : ∃ z : Int32, p2 ||| v1667 = z := ⟨_, rfl⟩
                refine lv_ior hx hb dX3_joinMore_163 ?_
                refine fx_ti hm_v1668 ?_
                have hq_v1668 := tk_rng v1668
                refine lv_iload hx hb dX3_joinMore_164 (lv_at hl 0 rfl) ?_
                refine lv_iload hx hb dX3_joinMore_166 (lv_at hl 7 rfl) ?_
                refine lv_aload_n hx hb dX3_joinMore_168 rfl (lv_at hl 3 rfl) ?_
                refine tk_get (ci := 3) (C := RX3) (T := TX3) (N := 5) (sp := (8, 20, 3, 0)) hx hb htl inX3 hown hK hG ht_a0 (by decide) tk_no rfl 0 (by decide) (htl _ mw_175) (fun _ h9 => h9) rfl dX3_joinMore_169 (fun v9 hf1669 hV9 => ?_)
                obtain ⟨rfl, ht_ld20⟩ := hV9
                have ht_ld20 : t (ld 20) = (3, 0, 0) := ht_ld20
                refine fx_top (v := .ref (ld 20)) rfl ?_
                refine tk_get (ci := 2) (C := RX2) (T := TX2) (N := 20) (sp := (11, 120, 37, 10)) hx hb htl inX2 hown hK hG ht_ld20 (by decide) tk_no rfl 10 (by decide) (htl _ mw_1463) (fun _ h9 => h9) rfl dX3_joinMore_172 (fun v9 hf1670 hV9 => ?_)
                obtain ⟨rfl, ht_ld120⟩ := hV9
                have ht_ld120 : t (ld 120) = (37, 10, 0) := ht_ld120
                refine fx_top (v := .ref (ld 120)) rfl ?_
                refine lv_iload hx hb dX3_joinMore_175 (lv_at hl 2 rfl) ?_
                refine tk_iald hx hb hK hG ht_ld120 (by decide) (fun _ h => h) tk_no rfl (by omega) (by omega) dX3_joinMore_177 (fun v1671 _ hz9 => ?_)
                have hr_v1671 := tk_rng v1671
                have ev_v1671 : v1671 = q3 v969.toNatClampNeg := hj1_9.at hz9 (by have h9 : v969.toNatClampNeg = v969.toInt.toNat := rfl; omega)
                have he_v1671 : 1 ≤ v1671.toInt ∧ v1671.toInt ≤ 9 := by rw [ev_v1671]; exact (hqr v969.toInt.toNat (by omega)).2
                have hee_v1671 : v1671.toInt = v1649.toInt := congrArg Int32.toInt (ev_v1671.trans ev_v1649.symm)
                have hle_v1671 : v1671.toInt ≤ p4.toInt := by omega
                refine lv_isub hx hb dX3_joinMore_178 ?_
                refine tk_sub rfl rfl (by omega) (by omega) (fun v1672 h_v1672 => ?_)
                have hk_3 : (3 : Int32).toInt = 3 := by decide
                have hzr_v1654 := mU_at hmu hag (j := 1) (by decide)
                have hzr_v1654 : 0 ≤ v1654.toInt ∧ v1654.toInt < n2.toInt := by rw [ev_v1654]; exact hzr_v1654
                refine tk_Vv (As := [.int 3, .int v1668, .int v1666, .int v1672]) (rest := []) (ci := 3) ⟨hx, hb, hml, hown, hts⟩ hK hG hZ hS (k_X3_joinMore_3_x l D cy ld t a0 v1668 v1666 v1672 LL bj bb v972 v971 (upd f970 (2 : Int32).toNatClampNeg v969) f973 n0 n1 n2 n3 fh fs fk q1 q2 q3 ht_a0 ht_bj ht_bb ht_ld20 ht_ld70 ht_ld80 ht_ld90 ht_ld100 ht_ld110 ht_ld120 (by omega) (by omega) (by omega) (by omega) (by omega) (by omega) (by omega) (by omega) (by omega) (by omega) (by omega) (by omega) (by omega) (by omega) hqr (mU_next hmu hag (by omega) (by omega) (by omega) (by rw [hm_v1643, hm_v1644]; omega) (by rw [hm_v1667, hm_v1668]) ((mq_at (show ((v969.toInt.toNat : Nat) : Int) < n2.toInt by omega)).trans ev_v1664.symm) ((mq_at (show ((v969.toInt.toNat : Nat) : Int) < n2.toInt by omega)).trans ev_v1671.symm) (by decide) (mBon_n (by decide) (by decide) rfl ev_v1654 (by have e7 : mq n2.toInt q2 v969.toInt.toNat = v1658 := (mq_at (by omega)).trans ev_v1658.symm; have e8 : mq n2.toInt q2 v1654.toInt.toNat = v1655 := (mq_at (by omega)).trans ev_v1655.symm; rw [e7, e8]; intro h9; have h8 := congrArg Int32.toInt h9; omega)) (by omega) (by omega))) ⟨⟨hj0_0, hj0_1, hf868, hf866, hj1661, hj871⟩, ⟨hj1_0, hj1_1, hj1_2, hj1_3, hj1_4, hj1_5, hj1_6, hj1_7, hj1_8, hj1_9⟩⟩ ⟨callB_of 4 hts (wl_in mw_1460) rfl rfl rfl (htl _ mw_48) (htl _ mw_1457) hd_yX3_joinMore ⟨(Nat.le_of_ble_eq_true rfl), (Nat.le_of_ble_eq_true rfl)⟩, htl _ mw_1458, htl _ mw_1459⟩ ht_a0 (by decide) tk_no rfl (tk_w.pick [0, 1, 2] rfl) rfl hl.1 rfl (Nat.le_of_ble_eq_true rfl) dX3_joinMore_179 ⟨(Nat.le_of_ble_eq_true rfl), (Nat.le_of_ble_eq_true rfl)⟩ (fun H locs hpo hG hS hq9 => ?_)
                have hj1_0 := hj1_0.call hq9 (tk_w.no ht_ld20 (by decide))
                have hj1_1 := hj1_1.call hq9 (tk_w.no ht_ld20 (by decide))
                have hj1_2 := hj1_2.call hq9 (tk_w.no ht_ld20 (by decide))
                have hj1_3 := hj1_3.call hq9 (tk_w.no ht_ld20 (by decide))
                have hj1_4 := hj1_4.call hq9 (tk_w.no ht_ld70 (by decide))
                have hj1_5 := hj1_5.call hq9 (tk_w.no ht_ld80 (by decide))
                have hj1_6 := hj1_6.call hq9 (tk_w.no ht_ld90 (by decide))
                have hj1_7 := hj1_7.call hq9 (tk_w.no ht_ld100 (by decide))
                have hj1_8 := hj1_8.call hq9 (tk_w.no ht_ld110 (by decide))
                have hj1_9 := hj1_9.call hq9 (tk_w.no ht_ld120 (by decide))
                obtain ⟨hraw1674, ⟨hj1675, hj1676, hj1677, hj1678, hj1679, hj1680, hj1681, hj1682, hj1683, hj1684⟩⟩ := hpo
                obtain ⟨v1691, v1692, f1693, f1694, ⟨hM_1685, hM_1686, hM_1687, hM_1688, hM_1689, hM_1690⟩, ⟨hlo_v1691, hhi_v1691⟩, hg1695, hP1696⟩ := hraw1674
                have hq_v1692 := tk_rng v1692
                obtain ⟨v1697, h_v1697, e_v1697⟩ := tk_inc v969 1 (by decide) (by omega) (by omega)
                refine lv_iinc (v := v1697) (lv' := [(5, .int v1697), (7, .int v1666), (6, .int 0), (0, .ref a0), (1, .int 2), (2, .int p2), (3, .int p3), (4, .int p4)]) hx hb dX3_joinMore_182 hl (k := 2) rfl e_v1697 (by decide) rfl (fun ls hl => ?_)
                refine lv_goto (tgt := 45) hx hb dX3_joinMore_185 (by decide) ?_
                exact ih_l1640 v1697 f1693 v1692 v1691 f1694 _ _ (by omega) (by omega) (by omega) (by omega) (by omega) hG hS hM_1685 hM_1686 hM_1689 hj1675 hj1676 hj1677 hj1678 hj1679 hj1680 hj1681 hj1682 hj1683 hj1684 hM_1688 hM_1687 hM_1690 (mI_child (by omega) hmI9 (by omega) (by omega) (by omega) hmu.1 (mU_free hmu (by omega) (by omega) (by rw [hm_v1643, hm_v1644]; omega)) (by have h7 := hmu.2.2.2.1; have e7 : mq n2.toInt q3 v969.toInt.toNat = v1649 := (mq_at (by omega)).trans ev_v1649.symm; rw [e7]; omega) rfl hag (by decide) (by decide) hP1696) ((hg1695.mono (by decide)).trans (hag.pd (by decide))) _ (lv_sub hl [0, 3, 4, 5, 6, 7] rfl)
              · have hc1659 : v1655.toInt = v1658.toInt := (fi_eq rfl rfl).mp c9
                refine lv_iconst (v := 1) hx hb dX3_joinMore_114 (by decide) ?_
                refine lv_goto (tgt := 119) hx hb dX3_joinMore_115 (by decide) ?_
                refine lv_istore (lv' := [(6, .int 1), (5, .int v969), (0, .ref a0), (1, .int 2), (2, .int p2), (3, .int p3), (4, .int p4)]) hx hb dX3_joinMore_119 hl (by decide) rfl (fun ls hl => ?_)
                refine lv_aload_n hx hb dX3_joinMore_121 rfl (lv_at hl 2 rfl) ?_
                refine tk_getk (ci := 3) (C := RX3) (T := TX3) (N := 5) (sp := (6, 22, 4, 0)) hx hb htl inX3 hown hK hG ht_a0 (by decide) tk_no rfl 1 (by decide) (htl _ mw_173) (fun _ h9 => h9) rfl hj0_0 dX3_joinMore_122 ?_
                refine lv_iload_n hx hb dX3_joinMore_125 rfl (lv_at hl 3 rfl) ?_
                refine lv_iload hx hb dX3_joinMore_126 (lv_at hl 1 rfl) ?_
                refine tk_iastC hx hb hK hG hS ht_bj (by decide) (fun _ => Iff.rfl) tk_no (I := 2) (by decide) (by decide) (by decide) (show 0 ≤ (v969 : Int32).toInt ∧ (v969 : Int32).toInt ≤ 9 from ⟨by omega, by omega⟩) (tk_w.of ht_bj (by decide) (List.mem_of_getElem? (i := 0) rfl) (Nat.le_refl _) (Nat.le_refl _)) dX3_joinMore_128 hj0_4 (fun H locs hG hS hq9 hj1699 => ?_)
                have hj1699 : tk_c H bj 4 (upd f970 (2 : Int32).toNatClampNeg v969) := hj1699
                have hj0_0 := hj0_0.kept (hq9 _ (tk_ne ht_a0 ht_bj (Or.inl (by decide))))
                have hj0_1 := hj0_1.kept (hq9 _ (tk_ne ht_a0 ht_bj (Or.inl (by decide))))
                have hj1_0 := hj1_0.kept (hq9 _ (tk_ne ht_ld20 ht_bj (Or.inl (by decide))))
                have hj1_1 := hj1_1.kept (hq9 _ (tk_ne ht_ld20 ht_bj (Or.inl (by decide))))
                have hj1_2 := hj1_2.kept (hq9 _ (tk_ne ht_ld20 ht_bj (Or.inl (by decide))))
                have hj1_3 := hj1_3.kept (hq9 _ (tk_ne ht_ld20 ht_bj (Or.inl (by decide))))
                have hj1_4 := hj1_4.kept (hq9 _ (tk_ne ht_ld70 ht_bj (Or.inl (by decide))))
                have hj1_5 := hj1_5.kept (hq9 _ (tk_ne ht_ld80 ht_bj (Or.inl (by decide))))
                have hj1_6 := hj1_6.kept (hq9 _ (tk_ne ht_ld90 ht_bj (Or.inl (by decide))))
                have hj1_7 := hj1_7.kept (hq9 _ (tk_ne ht_ld100 ht_bj (Or.inl (by decide))))
                have hj1_8 := hj1_8.kept (hq9 _ (tk_ne ht_ld110 ht_bj (Or.inl (by decide))))
                have hj1_9 := hj1_9.kept (hq9 _ (tk_ne ht_ld120 ht_bj (Or.inl (by decide))))
                have hf866 := hf866.kept (hq9 _ (tk_ne ht_a0 ht_bj (Or.inl (by decide))))
                have hf868 := hf868.kept (hq9 _ (tk_ne ht_a0 ht_bj (Or.inl (by decide))))
                have hj871 := hj871.kept (hq9 _ (tk_ne ht_bb ht_bj (Or.inl (by decide))))
                refine lv_iload_n hx hb dX3_joinMore_129 rfl (lv_at hl 5 rfl) ?_
                refine lv_aload_n hx hb dX3_joinMore_130 rfl (lv_at hl 2 rfl) ?_
                refine tk_get (ci := 3) (C := RX3) (T := TX3) (N := 5) (sp := (8, 20, 3, 0)) hx hb htl inX3 hown hK hG ht_a0 (by decide) tk_no rfl 0 (by decide) (htl _ mw_175) (fun _ h9 => h9) rfl dX3_joinMore_131 (fun v9 hf1700 hV9 => ?_)
                obtain ⟨rfl, ht_ld20⟩ := hV9
                have ht_ld20 : t (ld 20) = (3, 0, 0) := ht_ld20
                refine fx_top (v := .ref (ld 20)) rfl ?_
                refine tk_get (ci := 2) (C := RX2) (T := TX2) (N := 20) (sp := (11, 100, 35, 10)) hx hb htl inX2 hown hK hG ht_ld20 (by decide) tk_no rfl 8 (by decide) (htl _ mw_1465) (fun _ h9 => h9) rfl dX3_joinMore_134 (fun v9 hf1701 hV9 => ?_)
                obtain ⟨rfl, ht_ld100⟩ := hV9
                have ht_ld100 : t (ld 100) = (35, 10, 0) := ht_ld100
                refine fx_top (v := .ref (ld 100)) rfl ?_
                refine lv_iload hx hb dX3_joinMore_137 (lv_at hl 1 rfl) ?_
                refine tk_iald hx hb hK hG ht_ld100 (by decide) (fun _ h => h) tk_no rfl (by omega) (by omega) dX3_joinMore_139 (fun v1702 _ hz9 => ?_)
                have hr_v1702 := tk_rng v1702
                have ev_v1702 : v1702 = q1 v969.toNatClampNeg := hj1_7.at hz9 (by have h9 : v969.toNatClampNeg = v969.toInt.toNat := rfl; omega)
                have he_v1702 : 1 ≤ v1702.toInt ∧ v1702.toInt ≤ 99 := by rw [ev_v1702]; exact (hqr v969.toInt.toNat (by omega)).1
                refine lv_iadd hx hb dX3_joinMore_140 ?_
                refine tk_add rfl rfl (by omega) (by omega) (fun v1703 h_v1703 => ?_)
                refine lv_iload hx hb dX3_joinMore_141 (lv_at hl 0 rfl) ?_
                refine lv_if_eq (tgt := 150) hx hb dX3_joinMore_143 (by decide) (fun c9 => absurd c9 (by decide)) (fun _ => ?_)
                refine lv_iconst (v := 3) hx hb dX3_joinMore_146 (by decide) ?_
                refine lv_goto (tgt := 151) hx hb dX3_joinMore_147 (by decide) ?_
                refine lv_iadd hx hb dX3_joinMore_151 ?_
                refine tk_add rfl (show (3 : Int32).toInt = 3 by decide) (by omega) (by omega) (fun v1704 h_v1704 => ?_)
                refine lv_istore (lv' := [(7, .int v1704), (6, .int 1), (5, .int v969), (0, .ref a0), (1, .int 2), (2, .int p2), (3, .int p3), (4, .int p4)]) hx hb dX3_joinMore_152 hl (by decide) rfl (fun ls hl => ?_)
                refine lv_aload_n hx hb dX3_joinMore_154 rfl (lv_at hl 3 rfl) ?_
                refine lv_iload_n hx hb dX3_joinMore_155 rfl (lv_at hl 4 rfl) ?_
                refine lv_iconst (v := 1) hx hb dX3_joinMore_156 (by decide) ?_
                refine lv_iadd hx hb dX3_joinMore_157 ?_
                refine fx_ti (v := 3) (by decide) ?_
                refine lv_iload_n hx hb dX3_joinMore_158 rfl (lv_at hl 5 rfl) ?_
                refine lv_iconst (v := 1) hx hb dX3_joinMore_159 (by decide) ?_
                refine lv_iload hx hb dX3_joinMore_160 (lv_at hl 2 rfl) ?_
                obtain ⟨v1705, hm_v1705⟩ : ∃ z : Int32, (1 : Int32) <<< (v969 &&& 31) = z := ⟨_, rfl⟩
                refine lv_ishl hx hb dX3_joinMore_162 ?_
                refine fx_ti hm_v1705 ?_
                have hq_v1705 := tk_rng v1705
                obtain ⟨v1706, hm_v1706⟩ : ∃ z : Int32, p2 ||| v1705 = z := ⟨_, rfl⟩
                refine lv_ior hx hb dX3_joinMore_163 ?_
                refine fx_ti hm_v1706 ?_
                have hq_v1706 := tk_rng v1706
                refine lv_iload hx hb dX3_joinMore_164 (lv_at hl 0 rfl) ?_
                refine lv_iload hx hb dX3_joinMore_166 (lv_at hl 7 rfl) ?_
                refine lv_aload_n hx hb dX3_joinMore_168 rfl (lv_at hl 3 rfl) ?_
                refine tk_get (ci := 3) (C := RX3) (T := TX3) (N := 5) (sp := (8, 20, 3, 0)) hx hb htl inX3 hown hK hG ht_a0 (by decide) tk_no rfl 0 (by decide) (htl _ mw_175) (fun _ h9 => h9) rfl dX3_joinMore_169 (fun v9 hf1707 hV9 => ?_)
                obtain ⟨rfl, ht_ld20⟩ := hV9
                have ht_ld20 : t (ld 20) = (3, 0, 0) := ht_ld20
                refine fx_top (v := .ref (ld 20)) rfl ?_
                refine tk_get (ci := 2) (C := RX2) (T := TX2) (N := 20) (sp := (11, 120, 37, 10)) hx hb htl inX2 hown hK hG ht_ld20 (by decide) tk_no rfl 10 (by decide) (htl _ mw_1463) (fun _ h9 => h9) rfl dX3_joinMore_172 (fun v9 hf1708 hV9 => ?_)
                obtain ⟨rfl, ht_ld120⟩ := hV9
                have ht_ld120 : t (ld 120) = (37, 10, 0) := ht_ld120
                refine fx_top (v := .ref (ld 120)) rfl ?_
                refine lv_iload hx hb dX3_joinMore_175 (lv_at hl 2 rfl) ?_
                refine tk_iald hx hb hK hG ht_ld120 (by decide) (fun _ h => h) tk_no rfl (by omega) (by omega) dX3_joinMore_177 (fun v1709 _ hz9 => ?_)
                have hr_v1709 := tk_rng v1709
                have ev_v1709 : v1709 = q3 v969.toNatClampNeg := hj1_9.at hz9 (by have h9 : v969.toNatClampNeg = v969.toInt.toNat := rfl; omega)
                have he_v1709 : 1 ≤ v1709.toInt ∧ v1709.toInt ≤ 9 := by rw [ev_v1709]; exact (hqr v969.toInt.toNat (by omega)).2
                have hee_v1709 : v1709.toInt = v1649.toInt := congrArg Int32.toInt (ev_v1709.trans ev_v1649.symm)
                have hle_v1709 : v1709.toInt ≤ p4.toInt := by omega
                refine lv_isub hx hb dX3_joinMore_178 ?_
                refine tk_sub rfl rfl (by omega) (by omega) (fun v1710 h_v1710 => ?_)
                have hk_3 : (3 : Int32).toInt = 3 := by decide
                have hzr_v1654 := mU_at hmu hag (j := 1) (by decide)
                have hzr_v1654 : 0 ≤ v1654.toInt ∧ v1654.toInt < n2.toInt := by rw [ev_v1654]; exact hzr_v1654
                refine tk_Vv (As := [.int 3, .int v1706, .int v1704, .int v1710]) (rest := []) (ci := 3) ⟨hx, hb, hml, hown, hts⟩ hK hG hZ hS (k_X3_joinMore_3_x l D cy ld t a0 v1706 v1704 v1710 LL bj bb v972 v971 (upd f970 (2 : Int32).toNatClampNeg v969) f973 n0 n1 n2 n3 fh fs fk q1 q2 q3 ht_a0 ht_bj ht_bb ht_ld20 ht_ld70 ht_ld80 ht_ld90 ht_ld100 ht_ld110 ht_ld120 (by omega) (by omega) (by omega) (by omega) (by omega) (by omega) (by omega) (by omega) (by omega) (by omega) (by omega) (by omega) (by omega) (by omega) hqr (mU_next hmu hag (by omega) (by omega) (by omega) (by rw [hm_v1643, hm_v1644]; omega) (by rw [hm_v1705, hm_v1706]) ((mq_at (show ((v969.toInt.toNat : Nat) : Int) < n2.toInt by omega)).trans ev_v1702.symm) ((mq_at (show ((v969.toInt.toNat : Nat) : Int) < n2.toInt by omega)).trans ev_v1709.symm) (by decide) (mBon_y (by decide) (by decide) rfl ev_v1654 (by have e7 : mq n2.toInt q2 v969.toInt.toNat = v1658 := (mq_at (by omega)).trans ev_v1658.symm; have e8 : mq n2.toInt q2 v1654.toInt.toNat = v1655 := (mq_at (by omega)).trans ev_v1655.symm; rw [e7, e8]; exact m_eq (by omega))) (by omega) (by omega))) ⟨⟨hj0_0, hj0_1, hf868, hf866, hj1699, hj871⟩, ⟨hj1_0, hj1_1, hj1_2, hj1_3, hj1_4, hj1_5, hj1_6, hj1_7, hj1_8, hj1_9⟩⟩ ⟨callB_of 4 hts (wl_in mw_1460) rfl rfl rfl (htl _ mw_48) (htl _ mw_1457) hd_yX3_joinMore ⟨(Nat.le_of_ble_eq_true rfl), (Nat.le_of_ble_eq_true rfl)⟩, htl _ mw_1458, htl _ mw_1459⟩ ht_a0 (by decide) tk_no rfl (tk_w.pick [0, 1, 2] rfl) rfl hl.1 rfl (Nat.le_of_ble_eq_true rfl) dX3_joinMore_179 ⟨(Nat.le_of_ble_eq_true rfl), (Nat.le_of_ble_eq_true rfl)⟩ (fun H locs hpo hG hS hq9 => ?_)
                have hj1_0 := hj1_0.call hq9 (tk_w.no ht_ld20 (by decide))
                have hj1_1 := hj1_1.call hq9 (tk_w.no ht_ld20 (by decide))
                have hj1_2 := hj1_2.call hq9 (tk_w.no ht_ld20 (by decide))
                have hj1_3 := hj1_3.call hq9 (tk_w.no ht_ld20 (by decide))
                have hj1_4 := hj1_4.call hq9 (tk_w.no ht_ld70 (by decide))
                have hj1_5 := hj1_5.call hq9 (tk_w.no ht_ld80 (by decide))
                have hj1_6 := hj1_6.call hq9 (tk_w.no ht_ld90 (by decide))
                have hj1_7 := hj1_7.call hq9 (tk_w.no ht_ld100 (by decide))
                have hj1_8 := hj1_8.call hq9 (tk_w.no ht_ld110 (by decide))
                have hj1_9 := hj1_9.call hq9 (tk_w.no ht_ld120 (by decide))
                obtain ⟨hraw1712, ⟨hj1713, hj1714, hj1715, hj1716, hj1717, hj1718, hj1719, hj1720, hj1721, hj1722⟩⟩ := hpo
                obtain ⟨v1729, v1730, f1731, f1732, ⟨hM_1723, hM_1724, hM_1725, hM_1726, hM_1727, hM_1728⟩, ⟨hlo_v1729, hhi_v1729⟩, hg1733, hP1734⟩ := hraw1712
                have hq_v1730 := tk_rng v1730
                obtain ⟨v1735, h_v1735, e_v1735⟩ := tk_inc v969 1 (by decide) (by omega) (by omega)
                refine lv_iinc (v := v1735) (lv' := [(5, .int v1735), (7, .int v1704), (6, .int 1), (0, .ref a0), (1, .int 2), (2, .int p2), (3, .int p3), (4, .int p4)]) hx hb dX3_joinMore_182 hl (k := 2) rfl e_v1735 (by decide) rfl (fun ls hl => ?_)
                refine lv_goto (tgt := 45) hx hb dX3_joinMore_185 (by decide) ?_
                exact ih_l1640 v1735 f1731 v1730 v1729 f1732 _ _ (by omega) (by omega) (by omega) (by omega) (by omega) hG hS hM_1723 hM_1724 hM_1727 hj1713 hj1714 hj1715 hj1716 hj1717 hj1718 hj1719 hj1720 hj1721 hj1722 hM_1726 hM_1725 hM_1728 (mI_child (by omega) hmI9 (by omega) (by omega) (by omega) hmu.1 (mU_free hmu (by omega) (by omega) (by rw [hm_v1643, hm_v1644]; omega)) (by have h7 := hmu.2.2.2.1; have e7 : mq n2.toInt q3 v969.toInt.toNat = v1649 := (mq_at (by omega)).trans ev_v1649.symm; rw [e7]; omega) rfl hag (by decide) (by decide) hP1734) ((hg1733.mono (by decide)).trans (hag.pd (by decide))) _ (lv_sub hl [0, 3, 4, 5, 6, 7] rfl)
    have hk_0 : (0 : Int32).toInt = 0 := by decide
    have hk_2 : (2 : Int32).toInt = 2 := by decide
    have hk_0 : (0 : Int32).toInt = 0 := by decide
    exact hl1640 11 0 J p3 2 J _ _ (by omega) (by omega) (by omega) (by omega) (by omega) hG hS hj0_0 hj0_1 hj0_4 hj1_0 hj1_1 hj1_2 hj1_3 hj1_4 hj1_5 hj1_6 hj1_7 hj1_8 hj1_9 hf866 hf868 hj871 (mI_top (by decide) (by decide) hmu.2.2.1 (show bs.toInt < p3.toInt by omega) (by decide) (mAg.refl _ _)) (mAg.refl _ _) _ (lv_sub hl [0, 1, 2, 3, 4, 5] rfl)
set_option maxHeartbeats 4000000 in
set_option maxRecDepth 100000 in
theorem k_X3_joinMore_1_x (l : Launch) (D : va_G) (cy : Nat → ClassId) (ld : Nat → Nat) (t : tk_T) (a0 : Nat) (p2 : Int32) (p3 : Int32) (p4 : Int32) (LL : Int) (bj bb : Nat) (bl bs : Int32) (J B : Nat → Int32) (n0 n1 n2 n3 : Int32) (fh fs fk q1 q2 q3 : Nat → Int32) (ht_a0 : t a0 = (4, 0, 0)) (ht_bj : t bj = (22, 4, 0)) (ht_bb : t bb = (20, 4, 0)) (ht_ld20 : t (ld 20) = (3, 0, 0)) (ht_ld70 : t (ld 70) = (32, 8, 0)) (ht_ld80 : t (ld 80) = (33, 10, 0)) (ht_ld90 : t (ld 90) = (34, 10, 0)) (ht_ld100 : t (ld 100) = (35, 10, 0)) (ht_ld110 : t (ld 110) = (36, 10, 0)) (ht_ld120 : t (ld 120) = (37, 10, 0)) (hp_0 : 0 ≤ p3.toInt) (hp_1 : p3.toInt ≤ 102) (hp_2 : 0 ≤ p4.toInt) (hp_3 : p4.toInt ≤ 36) (hp_4 : 0 ≤ bl.toInt) (hp_5 : bl.toInt ≤ 4) (hp_6 : 0 ≤ n0.toInt) (hp_7 : n0.toInt ≤ 8) (hp_8 : 0 ≤ n1.toInt) (hp_9 : n1.toInt ≤ 10) (hp_10 : 0 ≤ n2.toInt) (hp_11 : n2.toInt ≤ 10) (hp_12 : 0 ≤ n3.toInt) (hp_13 : n3.toInt ≤ 8) (hqr : ∀ j : Nat, (j : Int) < n2.toInt → (1 ≤ (q1 j).toInt ∧ (q1 j).toInt ≤ 99) ∧ 1 ≤ (q3 j).toInt ∧ (q3 j).toInt ≤ 9) (hmu : mU n2.toInt LL (mq n2.toInt q1) (mq n2.toInt q2) (mq n2.toInt q3) 1 J p2 p3 p4) : Met l yX3_joinMore (wl yX3_joinMore cX3_joinMore 8 none) ({ frames := 7, cells := 0, slots := 0, locals := 420 }) (tp D cy ld t [] [.ref a0, .int 1, .int p2, .int p3, .int p4] (fun H => jM D a0 bj bb bl bs J B H ∧ jC D ld (ld 20) 0 n0 n1 n2 n3 fh fs fk q1 q2 q3 H)) (tv D cy ld t [] (fun H => (∃ (bl9 bs9 : Int32) (J9 B9 : Nat → Int32), jM D a0 bj bb bl9 bs9 J9 B9 H ∧ (0 ≤ bl9.toInt ∧ bl9.toInt ≤ 4) ∧ mAg 1 J9 J ∧ mP n2.toInt LL (mq n2.toInt q1) (mq n2.toInt q2) (mq n2.toInt q3) 1 J (bs.toInt, bl.toInt, B) (bs9.toInt, bl9.toInt, B9)) ∧ jC D ld (ld 20) 0 n0 n1 n2 n3 fh fs fk q1 q2 q3 H) (tk_w t [(22, 0, 0), (4, 0, 0), (20, 0, 0)])) 0 0 (tk_w t [(22, 0, 0), (4, 0, 0), (20, 0, 0)]) := by
  refine tk_met (y := yX3_joinMore) (cc := cX3_joinMore) (maxL := 8) (ret := none) (av := [.ref a0, .int 1, .int p2, .int p3, .int p4]) _ _ (by decide) (Nat.le_of_ble_eq_true rfl) ?_
  intro p e s m args below meth c hx hb hr hml hts htl hown hlocks hK H locs hH hG hS hB hZ ls hl
  have hown : s.vm.findClass RX3 = some m.cls := hown
  have hl : lv_has ls 8 [(0, .ref a0), (1, .int 1), (2, .int p2), (3, .int p3), (4, .int p4)] := hl
  obtain ⟨⟨hj0_0, hj0_1, hj0_2, hj0_3, hj0_4, hj0_5⟩, ⟨hj1_0, hj1_1, hj1_2, hj1_3, hj1_4, hj1_5, hj1_6, hj1_7, hj1_8, hj1_9⟩⟩ := hB
  have hr_p2 := tk_rng p2
  have hr_p3 := tk_rng p3
  have hr_p4 := tk_rng p4
  refine lv_iload_n hx hb dX3_joinMore_0 rfl (lv_at hl 1 rfl) ?_
  refine lv_if_le (tgt := 36) hx hb dX3_joinMore_1 (by decide) (fun c9 => absurd c9 (by decide)) (fun _ => ?_)
  refine lv_iload_n hx hb dX3_joinMore_4 rfl (lv_at hl 3 rfl) ?_
  refine lv_aload_n hx hb dX3_joinMore_5 rfl (lv_at hl 0 rfl) ?_
  refine tk_getk (ci := 3) (C := RX3) (T := TX3) (N := 5) (sp := (0, (-2147483648), 2147483647, 0)) hx hb htl inX3 hown hK hG ht_a0 (by decide) tk_no rfl 4 (by decide) (htl _ mw_1456) (fun _ h9 => h9) rfl hj0_3 dX3_joinMore_6 ?_
  refine lv_icmp_le (tgt := 36) hx hb dX3_joinMore_9 (by decide) (fun c9 => ?_) (fun c9 => ?_)
  · have hc1 : p3.toInt ≤ bs.toInt := (fi_le rfl rfl).mp c9
    refine lv_iload_n hx hb dX3_joinMore_36 rfl (lv_at hl 1 rfl) ?_
    refine lv_iconst (v := 4) hx hb dX3_joinMore_37 (by decide) ?_
    refine lv_icmp_lt (tgt := 42) hx hb dX3_joinMore_38 (by decide) (fun _ => ?_) (fun c9 => absurd (by decide) c9)
    refine lv_iconst (v := 0) hx hb dX3_joinMore_42 (by decide) ?_
    refine lv_istore (lv' := [(5, .int 0), (0, .ref a0), (1, .int 1), (2, .int p2), (3, .int p3), (4, .int p4)]) hx hb dX3_joinMore_43 hl (by decide) rfl (fun ls hl => ?_)
    have hl770 : ∀ (N_l770 : Nat) (v99 : Int32) (v100 : Int32) (v101 : Int32) (f102 : Nat → Int32) (f103 : Nat → Int32) (H : Heap) (locs : List Loc), v99.toInt ≤ 10 → 0 ≤ v99.toInt → 0 ≤ v100.toInt → v100.toInt ≤ 4 → (-1) * v99.toInt + 10 < (N_l770 : Int) → tk_G D cy ld t [] H → va_S (tk_w t [(22, 0, 0), (4, 0, 0), (20, 0, 0)]) s.heap H locs → tk_f D H a0 3 1 (.ref bj) → tk_f D H a0 3 2 (.ref bb) → tk_f D H a0 3 3 (.int v100) → tk_f D H a0 3 4 (.int v101) → tk_c H bj 4 f102 → tk_c H bb 4 f103 → tk_f D H (ld 20) 2 0 (.int n0) → tk_f D H (ld 20) 2 4 (.int n1) → tk_f D H (ld 20) 2 7 (.int n2) → tk_f D H (ld 20) 2 11 (.int n3) → tk_c H (ld 70) 8 fh → tk_c H (ld 80) 10 fs → tk_c H (ld 90) 10 fk → tk_c H (ld 100) 10 q1 → tk_c H (ld 110) 10 q2 → tk_c H (ld 120) 10 q3 → mI n2.toInt LL (mq n2.toInt q1) (mq n2.toInt q2) (mq n2.toInt q3) 1 J (bs.toInt, bl.toInt, B) v99.toInt (v101.toInt, v100.toInt, f103) → mAg 1 f102 J → ∀ ls : Array Slot, lv_has ls 8 [(5, .int v99), (0, .ref a0), (1, .int 1), (2, .int p2), (3, .int p3), (4, .int p4)] → W p l e ({ frames := 7, cells := 0, slots := 0, locals := 420 }) s m args below meth c H locs 0 0 (MQ below (tv D cy ld t [] (fun H => (∃ (bl9 bs9 : Int32) (J9 B9 : Nat → Int32), jM D a0 bj bb bl9 bs9 J9 B9 H ∧ (0 ≤ bl9.toInt ∧ bl9.toInt ≤ 4) ∧ mAg 1 J9 J ∧ mP n2.toInt LL (mq n2.toInt q1) (mq n2.toInt q2) (mq n2.toInt q3) 1 J (bs.toInt, bl.toInt, B) (bs9.toInt, bl9.toInt, B9)) ∧ jC D ld (ld 20) 0 n0 n1 n2 n3 fh fs fk q1 q2 q3 H) (tk_w t [(22, 0, 0), (4, 0, 0), (20, 0, 0)])) args s 0 0 (tk_w t [(22, 0, 0), (4, 0, 0), (20, 0, 0)])) (F0 m 45 ls []) := by
      intro N_l770
      induction N_l770 with
      | zero => intro v99 v100 v101 f102 f103 H locs hq0_l770 hq1_l770 hq2_l770 hq3_l770 hm_l770 hG hS hj0_0 hj0_1 hj0_2 hj0_3 hj0_4 hj0_5 hj1_0 hj1_1 hj1_2 hj1_3 hj1_4 hj1_5 hj1_6 hj1_7 hj1_8 hj1_9 hmI9 hag ls hl; exfalso; omega
      | succ N_l770 ih_l770 =>
        intro v99 v100 v101 f102 f103 H locs hq0_l770 hq1_l770 hq2_l770 hq3_l770 hm_l770 hG hS hj0_0 hj0_1 hj0_2 hj0_3 hj0_4 hj0_5 hj1_0 hj1_1 hj1_2 hj1_3 hj1_4 hj1_5 hj1_6 hj1_7 hj1_8 hj1_9 hmI9 hag ls hl
        refine lv_iload hx hb dX3_joinMore_45 (lv_at hl 0 rfl) ?_
        refine lv_aload_n hx hb dX3_joinMore_47 rfl (lv_at hl 1 rfl) ?_
        refine tk_get (ci := 3) (C := RX3) (T := TX3) (N := 5) (sp := (8, 20, 3, 0)) hx hb htl inX3 hown hK hG ht_a0 (by decide) tk_no rfl 0 (by decide) (htl _ mw_175) (fun _ h9 => h9) rfl dX3_joinMore_48 (fun v9 hf771 hV9 => ?_)
        obtain ⟨rfl, ht_ld20⟩ := hV9
        have ht_ld20 : t (ld 20) = (3, 0, 0) := ht_ld20
        refine fx_top (v := .ref (ld 20)) rfl ?_
        refine tk_getk (ci := 2) (C := RX2) (T := TX2) (N := 20) (sp := (0, 0, 10, 0)) hx hb htl inX2 hown hK hG ht_ld20 (by decide) tk_no rfl 7 (by decide) (htl _ mw_1462) (fun _ h9 => h9) rfl hj1_2 dX3_joinMore_51 ?_
        refine lv_icmp_ge (tgt := 188) hx hb dX3_joinMore_54 (by decide) (fun c9 => ?_) (fun c9 => ?_)
        · have hc772 : n2.toInt ≤ v99.toInt := (fi_le rfl rfl).mp c9
          exact tk_vret hx hb hr hlocks (show (∃ (bl9 bs9 : Int32) (J9 B9 : Nat → Int32), jM D a0 bj bb bl9 bs9 J9 B9 H ∧ (0 ≤ bl9.toInt ∧ bl9.toInt ≤ 4) ∧ mAg 1 J9 J ∧ mP n2.toInt LL (mq n2.toInt q1) (mq n2.toInt q2) (mq n2.toInt q3) 1 J (bs.toInt, bl.toInt, B) (bs9.toInt, bl9.toInt, B9)) ∧ jC D ld (ld 20) 0 n0 n1 n2 n3 fh fs fk q1 q2 q3 H from ⟨⟨v100, v101, f102, f103, ⟨hj0_0, hj0_1, hj0_2, hj0_3, hj0_4, hj0_5⟩, ⟨by omega, by omega⟩, hag, (mI_end hmI9 (by omega) (by omega) (by omega))⟩, ⟨hj1_0, hj1_1, hj1_2, hj1_3, hj1_4, hj1_5, hj1_6, hj1_7, hj1_8, hj1_9⟩⟩) hG hS dX3_joinMore_188
        · have hc772 : ¬ (n2.toInt ≤ v99.toInt) := fun h9 => c9 ((fi_le rfl rfl).mpr h9)
          refine lv_iload_n hx hb dX3_joinMore_57 rfl (lv_at hl 3 rfl) ?_
          refine lv_iload hx hb dX3_joinMore_58 (lv_at hl 0 rfl) ?_
          obtain ⟨v773, hm_v773⟩ : ∃ z : Int32, p2 >>> (v99 &&& 31) = z := ⟨_, rfl⟩
          refine lv_ishr hx hb dX3_joinMore_60 ?_
          refine fx_ti hm_v773 ?_
          have hq_v773 := tk_rng v773
          refine lv_iconst (v := 1) hx hb dX3_joinMore_61 (by decide) ?_
          obtain ⟨v774, hm_v774⟩ : ∃ z : Int32, v773 &&& (1 : Int32) = z := ⟨_, rfl⟩
          refine lv_iand hx hb dX3_joinMore_62 ?_
          refine fx_ti hm_v774 ?_
          have h_v774 : 0 ≤ v774.toInt ∧ v774.toInt ≤ 1 := hm_v774 ▸ tk_and v773 1 (by decide) (by decide)
          refine lv_if_ne (tgt := 182) hx hb dX3_joinMore_63 (by decide) (fun c9 => ?_) (fun c9 => ?_)
          · have hc775 : ¬ (v774.toInt = 0) := fun h9 => c9 ((fi_eq rfl (show (0 : Int32).toInt = 0 by decide)).mpr h9)
            obtain ⟨v776, h_v776, e_v776⟩ := tk_inc v99 1 (by decide) (by omega) (by omega)
            refine lv_iinc (v := v776) (lv' := [(5, .int v776), (0, .ref a0), (1, .int 1), (2, .int p2), (3, .int p3), (4, .int p4)]) hx hb dX3_joinMore_182 hl (k := 0) rfl e_v776 (by decide) rfl (fun ls hl => ?_)
            refine lv_goto (tgt := 45) hx hb dX3_joinMore_185 (by decide) ?_
            exact ih_l770 v776 v100 v101 f102 f103 _ _ (by omega) (by omega) (by omega) (by omega) (by omega) hG hS hj0_0 hj0_1 hj0_2 hj0_3 hj0_4 hj0_5 hj1_0 hj1_1 hj1_2 hj1_3 hj1_4 hj1_5 hj1_6 hj1_7 hj1_8 hj1_9 (mI_skip (by omega) hmI9 (by omega) (by omega) (by omega) (Or.inl (mU_used hmu (by omega) (by omega) (by rw [hm_v773, hm_v774]; omega)))) hag _ (lv_sub hl [0, 1, 2, 3, 4, 5] rfl)
          · have hc775 : v774.toInt = 0 := (fi_eq rfl (show (0 : Int32).toInt = 0 by decide)).mp c9
            refine lv_aload_n hx hb dX3_joinMore_66 rfl (lv_at hl 1 rfl) ?_
            refine tk_get (ci := 3) (C := RX3) (T := TX3) (N := 5) (sp := (8, 20, 3, 0)) hx hb htl inX3 hown hK hG ht_a0 (by decide) tk_no rfl 0 (by decide) (htl _ mw_175) (fun _ h9 => h9) rfl dX3_joinMore_67 (fun v9 hf777 hV9 => ?_)
            obtain ⟨rfl, ht_ld20⟩ := hV9
            have ht_ld20 : t (ld 20) = (3, 0, 0) := ht_ld20
            refine fx_top (v := .ref (ld 20)) rfl ?_
            refine tk_get (ci := 2) (C := RX2) (T := TX2) (N := 20) (sp := (11, 120, 37, 10)) hx hb htl inX2 hown hK hG ht_ld20 (by decide) tk_no rfl 10 (by decide) (htl _ mw_1463) (fun _ h9 => h9) rfl dX3_joinMore_70 (fun v9 hf778 hV9 => ?_)
            obtain ⟨rfl, ht_ld120⟩ := hV9
            have ht_ld120 : t (ld 120) = (37, 10, 0) := ht_ld120
            refine fx_top (v := .ref (ld 120)) rfl ?_
            refine lv_iload hx hb dX3_joinMore_73 (lv_at hl 0 rfl) ?_
            refine tk_iald hx hb hK hG ht_ld120 (by decide) (fun _ h => h) tk_no rfl (by omega) (by omega) dX3_joinMore_75 (fun v779 _ hz9 => ?_)
            have hr_v779 := tk_rng v779
            have ev_v779 : v779 = q3 v99.toNatClampNeg := hj1_9.at hz9 (by have h9 : v99.toNatClampNeg = v99.toInt.toNat := rfl; omega)
            have he_v779 : 1 ≤ v779.toInt ∧ v779.toInt ≤ 9 := by rw [ev_v779]; exact (hqr v99.toInt.toNat (by omega)).2
            refine lv_iload hx hb dX3_joinMore_76 (lv_at hl 5 rfl) ?_
            refine lv_icmp_gt (tgt := 182) hx hb dX3_joinMore_78 (by decide) (fun c9 => ?_) (fun c9 => ?_)
            · have hc780 : p4.toInt < v779.toInt := (fi_lt rfl rfl).mp c9
              obtain ⟨v781, h_v781, e_v781⟩ := tk_inc v99 1 (by decide) (by omega) (by omega)
              refine lv_iinc (v := v781) (lv' := [(5, .int v781), (0, .ref a0), (1, .int 1), (2, .int p2), (3, .int p3), (4, .int p4)]) hx hb dX3_joinMore_182 hl (k := 0) rfl e_v781 (by decide) rfl (fun ls hl => ?_)
              refine lv_goto (tgt := 45) hx hb dX3_joinMore_185 (by decide) ?_
              exact ih_l770 v781 v100 v101 f102 f103 _ _ (by omega) (by omega) (by omega) (by omega) (by omega) hG hS hj0_0 hj0_1 hj0_2 hj0_3 hj0_4 hj0_5 hj1_0 hj1_1 hj1_2 hj1_3 hj1_4 hj1_5 hj1_6 hj1_7 hj1_8 hj1_9 (mI_skip (by omega) hmI9 (by omega) (by omega) (by omega) (Or.inr (by have h7 := hmu.2.2.2.1; have e7 : mq n2.toInt q3 v99.toInt.toNat = v779 := (mq_at (by omega)).trans ev_v779.symm; rw [e7]; omega))) hag _ (lv_sub hl [0, 1, 2, 3, 4, 5] rfl)
            · have hc780 : ¬ (p4.toInt < v779.toInt) := fun h9 => c9 ((fi_lt rfl rfl).mpr h9)
              refine lv_iload_n hx hb dX3_joinMore_81 rfl (lv_at hl 2 rfl) ?_
              refine lv_if_le (tgt := 118) hx hb dX3_joinMore_82 (by decide) (fun c9 => absurd c9 (by decide)) (fun _ => ?_)
              refine lv_aload_n hx hb dX3_joinMore_85 rfl (lv_at hl 1 rfl) ?_
              refine tk_get (ci := 3) (C := RX3) (T := TX3) (N := 5) (sp := (8, 20, 3, 0)) hx hb htl inX3 hown hK hG ht_a0 (by decide) tk_no rfl 0 (by decide) (htl _ mw_175) (fun _ h9 => h9) rfl dX3_joinMore_86 (fun v9 hf782 hV9 => ?_)
              obtain ⟨rfl, ht_ld20⟩ := hV9
              have ht_ld20 : t (ld 20) = (3, 0, 0) := ht_ld20
              refine fx_top (v := .ref (ld 20)) rfl ?_
              refine tk_get (ci := 2) (C := RX2) (T := TX2) (N := 20) (sp := (11, 110, 36, 10)) hx hb htl inX2 hown hK hG ht_ld20 (by decide) tk_no rfl 9 (by decide) (htl _ mw_1464) (fun _ h9 => h9) rfl dX3_joinMore_89 (fun v9 hf783 hV9 => ?_)
              obtain ⟨rfl, ht_ld110⟩ := hV9
              have ht_ld110 : t (ld 110) = (36, 10, 0) := ht_ld110
              refine fx_top (v := .ref (ld 110)) rfl ?_
              refine lv_aload_n hx hb dX3_joinMore_92 rfl (lv_at hl 1 rfl) ?_
              refine tk_getk (ci := 3) (C := RX3) (T := TX3) (N := 5) (sp := (6, 22, 4, 0)) hx hb htl inX3 hown hK hG ht_a0 (by decide) tk_no rfl 1 (by decide) (htl _ mw_173) (fun _ h9 => h9) rfl hj0_0 dX3_joinMore_93 ?_
              refine lv_iload_n hx hb dX3_joinMore_96 rfl (lv_at hl 2 rfl) ?_
              refine lv_iconst (v := 1) hx hb dX3_joinMore_97 (by decide) ?_
              refine lv_isub hx hb dX3_joinMore_98 ?_
              refine fx_ti (v := 0) (by decide) ?_
              refine tk_iald hx hb hK hG ht_bj (by decide) (fun _ h => h) tk_no (I := 0) (by decide) (by decide) (by decide) dX3_joinMore_99 (fun v784 hE9 hz9 => ?_)
              have he_v784 : 0 ≤ v784.toInt ∧ v784.toInt ≤ 9 := hE9
              have ev_v784 : v784 = f102 (0 : Int32).toNatClampNeg := hj0_4.at hz9 (by decide)
              refine tk_iald hx hb hK hG ht_ld110 (by decide) (fun _ h => h) tk_no rfl (by omega) (by omega) dX3_joinMore_100 (fun v785 _ hz9 => ?_)
              have hr_v785 := tk_rng v785
              have ev_v785 : v785 = q2 v784.toNatClampNeg := hj1_8.at hz9 (by have h9 : v784.toNatClampNeg = v784.toInt.toNat := rfl; omega)
              refine lv_aload_n hx hb dX3_joinMore_101 rfl (lv_at hl 1 rfl) ?_
              refine tk_get (ci := 3) (C := RX3) (T := TX3) (N := 5) (sp := (8, 20, 3, 0)) hx hb htl inX3 hown hK hG ht_a0 (by decide) tk_no rfl 0 (by decide) (htl _ mw_175) (fun _ h9 => h9) rfl dX3_joinMore_102 (fun v9 hf786 hV9 => ?_)
              obtain ⟨rfl, ht_ld20⟩ := hV9
              have ht_ld20 : t (ld 20) = (3, 0, 0) := ht_ld20
              refine fx_top (v := .ref (ld 20)) rfl ?_
              refine tk_get (ci := 2) (C := RX2) (T := TX2) (N := 20) (sp := (11, 110, 36, 10)) hx hb htl inX2 hown hK hG ht_ld20 (by decide) tk_no rfl 9 (by decide) (htl _ mw_1464) (fun _ h9 => h9) rfl dX3_joinMore_105 (fun v9 hf787 hV9 => ?_)
              obtain ⟨rfl, ht_ld110⟩ := hV9
              have ht_ld110 : t (ld 110) = (36, 10, 0) := ht_ld110
              refine fx_top (v := .ref (ld 110)) rfl ?_
              refine lv_iload hx hb dX3_joinMore_108 (lv_at hl 0 rfl) ?_
              refine tk_iald hx hb hK hG ht_ld110 (by decide) (fun _ h => h) tk_no rfl (by omega) (by omega) dX3_joinMore_110 (fun v788 _ hz9 => ?_)
              have hr_v788 := tk_rng v788
              have ev_v788 : v788 = q2 v99.toNatClampNeg := hj1_8.at hz9 (by have h9 : v99.toNatClampNeg = v99.toInt.toNat := rfl; omega)
              refine lv_icmp_ne (tgt := 118) hx hb dX3_joinMore_111 (by decide) (fun c9 => ?_) (fun c9 => ?_)
              · have hc789 : ¬ (v785.toInt = v788.toInt) := fun h9 => c9 ((fi_eq rfl rfl).mpr h9)
                refine lv_iconst (v := 0) hx hb dX3_joinMore_118 (by decide) ?_
                refine lv_istore (lv' := [(6, .int 0), (5, .int v99), (0, .ref a0), (1, .int 1), (2, .int p2), (3, .int p3), (4, .int p4)]) hx hb dX3_joinMore_119 hl (by decide) rfl (fun ls hl => ?_)
                refine lv_aload_n hx hb dX3_joinMore_121 rfl (lv_at hl 2 rfl) ?_
                refine tk_getk (ci := 3) (C := RX3) (T := TX3) (N := 5) (sp := (6, 22, 4, 0)) hx hb htl inX3 hown hK hG ht_a0 (by decide) tk_no rfl 1 (by decide) (htl _ mw_173) (fun _ h9 => h9) rfl hj0_0 dX3_joinMore_122 ?_
                refine lv_iload_n hx hb dX3_joinMore_125 rfl (lv_at hl 3 rfl) ?_
                refine lv_iload hx hb dX3_joinMore_126 (lv_at hl 1 rfl) ?_
                refine tk_iastC hx hb hK hG hS ht_bj (by decide) (fun _ => Iff.rfl) tk_no (I := 1) (by decide) (by decide) (by decide) (show 0 ≤ (v99 : Int32).toInt ∧ (v99 : Int32).toInt ≤ 9 from ⟨by omega, by omega⟩) (tk_w.of ht_bj (by decide) (List.mem_of_getElem? (i := 0) rfl) (Nat.le_refl _) (Nat.le_refl _)) dX3_joinMore_128 hj0_4 (fun H locs hG hS hq9 hj791 => ?_)
                have hj791 : tk_c H bj 4 (upd f102 (1 : Int32).toNatClampNeg v99) := hj791
                have hj0_0 := hj0_0.kept (hq9 _ (tk_ne ht_a0 ht_bj (Or.inl (by decide))))
                have hj0_1 := hj0_1.kept (hq9 _ (tk_ne ht_a0 ht_bj (Or.inl (by decide))))
                have hj0_2 := hj0_2.kept (hq9 _ (tk_ne ht_a0 ht_bj (Or.inl (by decide))))
                have hj0_3 := hj0_3.kept (hq9 _ (tk_ne ht_a0 ht_bj (Or.inl (by decide))))
                have hj0_5 := hj0_5.kept (hq9 _ (tk_ne ht_bb ht_bj (Or.inl (by decide))))
                have hj1_0 := hj1_0.kept (hq9 _ (tk_ne ht_ld20 ht_bj (Or.inl (by decide))))
                have hj1_1 := hj1_1.kept (hq9 _ (tk_ne ht_ld20 ht_bj (Or.inl (by decide))))
                have hj1_2 := hj1_2.kept (hq9 _ (tk_ne ht_ld20 ht_bj (Or.inl (by decide))))
                have hj1_3 := hj1_3.kept (hq9 _ (tk_ne ht_ld20 ht_bj (Or.inl (by decide))))
                have hj1_4 := hj1_4.kept (hq9 _ (tk_ne ht_ld70 ht_bj (Or.inl (by decide))))
                have hj1_5 := hj1_5.kept (hq9 _ (tk_ne ht_ld80 ht_bj (Or.inl (by decide))))
                have hj1_6 := hj1_6.kept (hq9 _ (tk_ne ht_ld90 ht_bj (Or.inl (by decide))))
                have hj1_7 := hj1_7.kept (hq9 _ (tk_ne ht_ld100 ht_bj (Or.inl (by decide))))
                have hj1_8 := hj1_8.kept (hq9 _ (tk_ne ht_ld110 ht_bj (Or.inl (by decide))))
                have hj1_9 := hj1_9.kept (hq9 _ (tk_ne ht_ld120 ht_bj (Or.inl (by decide))))
                refine lv_iload_n hx hb dX3_joinMore_129 rfl (lv_at hl 5 rfl) ?_
                refine lv_aload_n hx hb dX3_joinMore_130 rfl (lv_at hl 2 rfl) ?_
                refine tk_get (ci := 3) (C := RX3) (T := TX3) (N := 5) (sp := (8, 20, 3, 0)) hx hb htl inX3 hown hK hG ht_a0 (by decide) tk_no rfl 0 (by decide) (htl _ mw_175) (fun _ h9 => h9) rfl dX3_joinMore_131 (fun v9 hf792 hV9 => ?_)
                obtain ⟨rfl, ht_ld20⟩ := hV9
                have ht_ld20 : t (ld 20) = (3, 0, 0) := ht_ld20
                refine fx_top (v := .ref (ld 20)) rfl ?_
                refine tk_get (ci := 2) (C := RX2) (T := TX2) (N := 20) (sp := (11, 100, 35, 10)) hx hb htl inX2 hown hK hG ht_ld20 (by decide) tk_no rfl 8 (by decide) (htl _ mw_1465) (fun _ h9 => h9) rfl dX3_joinMore_134 (fun v9 hf793 hV9 => ?_)
                obtain ⟨rfl, ht_ld100⟩ := hV9
                have ht_ld100 : t (ld 100) = (35, 10, 0) := ht_ld100
                refine fx_top (v := .ref (ld 100)) rfl ?_
                refine lv_iload hx hb dX3_joinMore_137 (lv_at hl 1 rfl) ?_
                refine tk_iald hx hb hK hG ht_ld100 (by decide) (fun _ h => h) tk_no rfl (by omega) (by omega) dX3_joinMore_139 (fun v794 _ hz9 => ?_)
                have hr_v794 := tk_rng v794
                have ev_v794 : v794 = q1 v99.toNatClampNeg := hj1_7.at hz9 (by have h9 : v99.toNatClampNeg = v99.toInt.toNat := rfl; omega)
                have he_v794 : 1 ≤ v794.toInt ∧ v794.toInt ≤ 99 := by rw [ev_v794]; exact (hqr v99.toInt.toNat (by omega)).1
                refine lv_iadd hx hb dX3_joinMore_140 ?_
                refine tk_add rfl rfl (by omega) (by omega) (fun v795 h_v795 => ?_)
                refine lv_iload hx hb dX3_joinMore_141 (lv_at hl 0 rfl) ?_
                refine lv_if_eq (tgt := 150) hx hb dX3_joinMore_143 (by decide) (fun _ => ?_) (fun c9 => absurd (by decide) c9)
                refine lv_iconst (v := 0) hx hb dX3_joinMore_150 (by decide) ?_
                refine lv_iadd hx hb dX3_joinMore_151 ?_
                refine tk_add rfl (show (0 : Int32).toInt = 0 by decide) (by omega) (by omega) (fun v796 h_v796 => ?_)
                refine lv_istore (lv' := [(7, .int v796), (6, .int 0), (5, .int v99), (0, .ref a0), (1, .int 1), (2, .int p2), (3, .int p3), (4, .int p4)]) hx hb dX3_joinMore_152 hl (by decide) rfl (fun ls hl => ?_)
                refine lv_aload_n hx hb dX3_joinMore_154 rfl (lv_at hl 3 rfl) ?_
                refine lv_iload_n hx hb dX3_joinMore_155 rfl (lv_at hl 4 rfl) ?_
                refine lv_iconst (v := 1) hx hb dX3_joinMore_156 (by decide) ?_
                refine lv_iadd hx hb dX3_joinMore_157 ?_
                refine fx_ti (v := 2) (by decide) ?_
                refine lv_iload_n hx hb dX3_joinMore_158 rfl (lv_at hl 5 rfl) ?_
                refine lv_iconst (v := 1) hx hb dX3_joinMore_159 (by decide) ?_
                refine lv_iload hx hb dX3_joinMore_160 (lv_at hl 2 rfl) ?_
                obtain ⟨v797, hm_v797⟩ : ∃ z : Int32, (1 : Int32) <<< (v99 &&& 31) = z := ⟨_, rfl⟩
                refine lv_ishl hx hb dX3_joinMore_162 ?_
                refine fx_ti hm_v797 ?_
                have hq_v797 := tk_rng v797
                obtain ⟨v798, hm_v798⟩ : ∃ z : Int32, p2 ||| v797 = z := ⟨_, rfl⟩
                refine lv_ior hx hb dX3_joinMore_163 ?_
                refine fx_ti hm_v798 ?_
                have hq_v798 := tk_rng v798
                refine lv_iload hx hb dX3_joinMore_164 (lv_at hl 0 rfl) ?_
                refine lv_iload hx hb dX3_joinMore_166 (lv_at hl 7 rfl) ?_
                refine lv_aload_n hx hb dX3_joinMore_168 rfl (lv_at hl 3 rfl) ?_
                refine tk_get (ci := 3) (C := RX3) (T := TX3) (N := 5) (sp := (8, 20, 3, 0)) hx hb htl inX3 hown hK hG ht_a0 (by decide) tk_no rfl 0 (by decide) (htl _ mw_175) (fun _ h9 => h9) rfl dX3_joinMore_169 (fun v9 hf799 hV9 => ?_)
                obtain ⟨rfl, ht_ld20⟩ := hV9
                have ht_ld20 : t (ld 20) = (3, 0, 0) := ht_ld20
                refine fx_top (v := .ref (ld 20)) rfl ?_
                refine tk_get (ci := 2) (C := RX2) (T := TX2) (N := 20) (sp := (11, 120, 37, 10)) hx hb htl inX2 hown hK hG ht_ld20 (by decide) tk_no rfl 10 (by decide) (htl _ mw_1463) (fun _ h9 => h9) rfl dX3_joinMore_172 (fun v9 hf800 hV9 => ?_)
                obtain ⟨rfl, ht_ld120⟩ := hV9
                have ht_ld120 : t (ld 120) = (37, 10, 0) := ht_ld120
                refine fx_top (v := .ref (ld 120)) rfl ?_
                refine lv_iload hx hb dX3_joinMore_175 (lv_at hl 2 rfl) ?_
                refine tk_iald hx hb hK hG ht_ld120 (by decide) (fun _ h => h) tk_no rfl (by omega) (by omega) dX3_joinMore_177 (fun v801 _ hz9 => ?_)
                have hr_v801 := tk_rng v801
                have ev_v801 : v801 = q3 v99.toNatClampNeg := hj1_9.at hz9 (by have h9 : v99.toNatClampNeg = v99.toInt.toNat := rfl; omega)
                have he_v801 : 1 ≤ v801.toInt ∧ v801.toInt ≤ 9 := by rw [ev_v801]; exact (hqr v99.toInt.toNat (by omega)).2
                have hee_v801 : v801.toInt = v779.toInt := congrArg Int32.toInt (ev_v801.trans ev_v779.symm)
                have hle_v801 : v801.toInt ≤ p4.toInt := by omega
                refine lv_isub hx hb dX3_joinMore_178 ?_
                refine tk_sub rfl rfl (by omega) (by omega) (fun v802 h_v802 => ?_)
                have hk_2 : (2 : Int32).toInt = 2 := by decide
                have hzr_v784 := mU_at hmu hag (j := 0) (by decide)
                have hzr_v784 : 0 ≤ v784.toInt ∧ v784.toInt < n2.toInt := by rw [ev_v784]; exact hzr_v784
                refine tk_Vv (As := [.int 2, .int v798, .int v796, .int v802]) (rest := []) (ci := 3) ⟨hx, hb, hml, hown, hts⟩ hK hG hZ hS (k_X3_joinMore_2_x l D cy ld t a0 v798 v796 v802 LL bj bb v100 v101 (upd f102 (1 : Int32).toNatClampNeg v99) f103 n0 n1 n2 n3 fh fs fk q1 q2 q3 ht_a0 ht_bj ht_bb ht_ld20 ht_ld70 ht_ld80 ht_ld90 ht_ld100 ht_ld110 ht_ld120 (by omega) (by omega) (by omega) (by omega) (by omega) (by omega) (by omega) (by omega) (by omega) (by omega) (by omega) (by omega) (by omega) (by omega) hqr (mU_next hmu hag (by omega) (by omega) (by omega) (by rw [hm_v773, hm_v774]; omega) (by rw [hm_v797, hm_v798]) ((mq_at (show ((v99.toInt.toNat : Nat) : Int) < n2.toInt by omega)).trans ev_v794.symm) ((mq_at (show ((v99.toInt.toNat : Nat) : Int) < n2.toInt by omega)).trans ev_v801.symm) (by decide) (mBon_n (by decide) (by decide) rfl ev_v784 (by have e7 : mq n2.toInt q2 v99.toInt.toNat = v788 := (mq_at (by omega)).trans ev_v788.symm; have e8 : mq n2.toInt q2 v784.toInt.toNat = v785 := (mq_at (by omega)).trans ev_v785.symm; rw [e7, e8]; intro h9; have h8 := congrArg Int32.toInt h9; omega)) (by omega) (by omega))) ⟨⟨hj0_0, hj0_1, hj0_2, hj0_3, hj791, hj0_5⟩, ⟨hj1_0, hj1_1, hj1_2, hj1_3, hj1_4, hj1_5, hj1_6, hj1_7, hj1_8, hj1_9⟩⟩ ⟨callB_of 4 hts (wl_in mw_1460) rfl rfl rfl (htl _ mw_48) (htl _ mw_1457) hd_yX3_joinMore ⟨(Nat.le_of_ble_eq_true rfl), (Nat.le_of_ble_eq_true rfl)⟩, htl _ mw_1458, htl _ mw_1459⟩ ht_a0 (by decide) tk_no rfl (tk_w.pick [0, 1, 2] rfl) rfl hl.1 rfl (Nat.le_of_ble_eq_true rfl) dX3_joinMore_179 ⟨(Nat.le_of_ble_eq_true rfl), (Nat.le_of_ble_eq_true rfl)⟩ (fun H locs hpo hG hS hq9 => ?_)
                have hj1_0 := hj1_0.call hq9 (tk_w.no ht_ld20 (by decide))
                have hj1_1 := hj1_1.call hq9 (tk_w.no ht_ld20 (by decide))
                have hj1_2 := hj1_2.call hq9 (tk_w.no ht_ld20 (by decide))
                have hj1_3 := hj1_3.call hq9 (tk_w.no ht_ld20 (by decide))
                have hj1_4 := hj1_4.call hq9 (tk_w.no ht_ld70 (by decide))
                have hj1_5 := hj1_5.call hq9 (tk_w.no ht_ld80 (by decide))
                have hj1_6 := hj1_6.call hq9 (tk_w.no ht_ld90 (by decide))
                have hj1_7 := hj1_7.call hq9 (tk_w.no ht_ld100 (by decide))
                have hj1_8 := hj1_8.call hq9 (tk_w.no ht_ld110 (by decide))
                have hj1_9 := hj1_9.call hq9 (tk_w.no ht_ld120 (by decide))
                obtain ⟨hraw804, ⟨hj805, hj806, hj807, hj808, hj809, hj810, hj811, hj812, hj813, hj814⟩⟩ := hpo
                obtain ⟨v821, v822, f823, f824, ⟨hM_815, hM_816, hM_817, hM_818, hM_819, hM_820⟩, ⟨hlo_v821, hhi_v821⟩, hg825, hP826⟩ := hraw804
                have hq_v822 := tk_rng v822
                obtain ⟨v827, h_v827, e_v827⟩ := tk_inc v99 1 (by decide) (by omega) (by omega)
                refine lv_iinc (v := v827) (lv' := [(5, .int v827), (7, .int v796), (6, .int 0), (0, .ref a0), (1, .int 1), (2, .int p2), (3, .int p3), (4, .int p4)]) hx hb dX3_joinMore_182 hl (k := 2) rfl e_v827 (by decide) rfl (fun ls hl => ?_)
                refine lv_goto (tgt := 45) hx hb dX3_joinMore_185 (by decide) ?_
                exact ih_l770 v827 v821 v822 f823 f824 _ _ (by omega) (by omega) (by omega) (by omega) (by omega) hG hS hM_815 hM_816 hM_817 hM_818 hM_819 hM_820 hj805 hj806 hj807 hj808 hj809 hj810 hj811 hj812 hj813 hj814 (mI_child (by omega) hmI9 (by omega) (by omega) (by omega) hmu.1 (mU_free hmu (by omega) (by omega) (by rw [hm_v773, hm_v774]; omega)) (by have h7 := hmu.2.2.2.1; have e7 : mq n2.toInt q3 v99.toInt.toNat = v779 := (mq_at (by omega)).trans ev_v779.symm; rw [e7]; omega) rfl hag (by decide) (by decide) hP826) ((hg825.mono (by decide)).trans (hag.pd (by decide))) _ (lv_sub hl [0, 3, 4, 5, 6, 7] rfl)
              · have hc789 : v785.toInt = v788.toInt := (fi_eq rfl rfl).mp c9
                refine lv_iconst (v := 1) hx hb dX3_joinMore_114 (by decide) ?_
                refine lv_goto (tgt := 119) hx hb dX3_joinMore_115 (by decide) ?_
                refine lv_istore (lv' := [(6, .int 1), (5, .int v99), (0, .ref a0), (1, .int 1), (2, .int p2), (3, .int p3), (4, .int p4)]) hx hb dX3_joinMore_119 hl (by decide) rfl (fun ls hl => ?_)
                refine lv_aload_n hx hb dX3_joinMore_121 rfl (lv_at hl 2 rfl) ?_
                refine tk_getk (ci := 3) (C := RX3) (T := TX3) (N := 5) (sp := (6, 22, 4, 0)) hx hb htl inX3 hown hK hG ht_a0 (by decide) tk_no rfl 1 (by decide) (htl _ mw_173) (fun _ h9 => h9) rfl hj0_0 dX3_joinMore_122 ?_
                refine lv_iload_n hx hb dX3_joinMore_125 rfl (lv_at hl 3 rfl) ?_
                refine lv_iload hx hb dX3_joinMore_126 (lv_at hl 1 rfl) ?_
                refine tk_iastC hx hb hK hG hS ht_bj (by decide) (fun _ => Iff.rfl) tk_no (I := 1) (by decide) (by decide) (by decide) (show 0 ≤ (v99 : Int32).toInt ∧ (v99 : Int32).toInt ≤ 9 from ⟨by omega, by omega⟩) (tk_w.of ht_bj (by decide) (List.mem_of_getElem? (i := 0) rfl) (Nat.le_refl _) (Nat.le_refl _)) dX3_joinMore_128 hj0_4 (fun H locs hG hS hq9 hj829 => ?_)
                have hj829 : tk_c H bj 4 (upd f102 (1 : Int32).toNatClampNeg v99) := hj829
                have hj0_0 := hj0_0.kept (hq9 _ (tk_ne ht_a0 ht_bj (Or.inl (by decide))))
                have hj0_1 := hj0_1.kept (hq9 _ (tk_ne ht_a0 ht_bj (Or.inl (by decide))))
                have hj0_2 := hj0_2.kept (hq9 _ (tk_ne ht_a0 ht_bj (Or.inl (by decide))))
                have hj0_3 := hj0_3.kept (hq9 _ (tk_ne ht_a0 ht_bj (Or.inl (by decide))))
                have hj0_5 := hj0_5.kept (hq9 _ (tk_ne ht_bb ht_bj (Or.inl (by decide))))
                have hj1_0 := hj1_0.kept (hq9 _ (tk_ne ht_ld20 ht_bj (Or.inl (by decide))))
                have hj1_1 := hj1_1.kept (hq9 _ (tk_ne ht_ld20 ht_bj (Or.inl (by decide))))
                have hj1_2 := hj1_2.kept (hq9 _ (tk_ne ht_ld20 ht_bj (Or.inl (by decide))))
                have hj1_3 := hj1_3.kept (hq9 _ (tk_ne ht_ld20 ht_bj (Or.inl (by decide))))
                have hj1_4 := hj1_4.kept (hq9 _ (tk_ne ht_ld70 ht_bj (Or.inl (by decide))))
                have hj1_5 := hj1_5.kept (hq9 _ (tk_ne ht_ld80 ht_bj (Or.inl (by decide))))
                have hj1_6 := hj1_6.kept (hq9 _ (tk_ne ht_ld90 ht_bj (Or.inl (by decide))))
                have hj1_7 := hj1_7.kept (hq9 _ (tk_ne ht_ld100 ht_bj (Or.inl (by decide))))
                have hj1_8 := hj1_8.kept (hq9 _ (tk_ne ht_ld110 ht_bj (Or.inl (by decide))))
                have hj1_9 := hj1_9.kept (hq9 _ (tk_ne ht_ld120 ht_bj (Or.inl (by decide))))
                refine lv_iload_n hx hb dX3_joinMore_129 rfl (lv_at hl 5 rfl) ?_
                refine lv_aload_n hx hb dX3_joinMore_130 rfl (lv_at hl 2 rfl) ?_
                refine tk_get (ci := 3) (C := RX3) (T := TX3) (N := 5) (sp := (8, 20, 3, 0)) hx hb htl inX3 hown hK hG ht_a0 (by decide) tk_no rfl 0 (by decide) (htl _ mw_175) (fun _ h9 => h9) rfl dX3_joinMore_131 (fun v9 hf830 hV9 => ?_)
                obtain ⟨rfl, ht_ld20⟩ := hV9
                have ht_ld20 : t (ld 20) = (3, 0, 0) := ht_ld20
                refine fx_top (v := .ref (ld 20)) rfl ?_
                refine tk_get (ci := 2) (C := RX2) (T := TX2) (N := 20) (sp := (11, 100, 35, 10)) hx hb htl inX2 hown hK hG ht_ld20 (by decide) tk_no rfl 8 (by decide) (htl _ mw_1465) (fun _ h9 => h9) rfl dX3_joinMore_134 (fun v9 hf831 hV9 => ?_)
                obtain ⟨rfl, ht_ld100⟩ := hV9
                have ht_ld100 : t (ld 100) = (35, 10, 0) := ht_ld100
                refine fx_top (v := .ref (ld 100)) rfl ?_
                refine lv_iload hx hb dX3_joinMore_137 (lv_at hl 1 rfl) ?_
                refine tk_iald hx hb hK hG ht_ld100 (by decide) (fun _ h => h) tk_no rfl (by omega) (by omega) dX3_joinMore_139 (fun v832 _ hz9 => ?_)
                have hr_v832 := tk_rng v832
                have ev_v832 : v832 = q1 v99.toNatClampNeg := hj1_7.at hz9 (by have h9 : v99.toNatClampNeg = v99.toInt.toNat := rfl; omega)
                have he_v832 : 1 ≤ v832.toInt ∧ v832.toInt ≤ 99 := by rw [ev_v832]; exact (hqr v99.toInt.toNat (by omega)).1
                refine lv_iadd hx hb dX3_joinMore_140 ?_
                refine tk_add rfl rfl (by omega) (by omega) (fun v833 h_v833 => ?_)
                refine lv_iload hx hb dX3_joinMore_141 (lv_at hl 0 rfl) ?_
                refine lv_if_eq (tgt := 150) hx hb dX3_joinMore_143 (by decide) (fun c9 => absurd c9 (by decide)) (fun _ => ?_)
                refine lv_iconst (v := 3) hx hb dX3_joinMore_146 (by decide) ?_
                refine lv_goto (tgt := 151) hx hb dX3_joinMore_147 (by decide) ?_
                refine lv_iadd hx hb dX3_joinMore_151 ?_
                refine tk_add rfl (show (3 : Int32).toInt = 3 by decide) (by omega) (by omega) (fun v834 h_v834 => ?_)
                refine lv_istore (lv' := [(7, .int v834), (6, .int 1), (5, .int v99), (0, .ref a0), (1, .int 1), (2, .int p2), (3, .int p3), (4, .int p4)]) hx hb dX3_joinMore_152 hl (by decide) rfl (fun ls hl => ?_)
                refine lv_aload_n hx hb dX3_joinMore_154 rfl (lv_at hl 3 rfl) ?_
                refine lv_iload_n hx hb dX3_joinMore_155 rfl (lv_at hl 4 rfl) ?_
                refine lv_iconst (v := 1) hx hb dX3_joinMore_156 (by decide) ?_
                refine lv_iadd hx hb dX3_joinMore_157 ?_
                refine fx_ti (v := 2) (by decide) ?_
                refine lv_iload_n hx hb dX3_joinMore_158 rfl (lv_at hl 5 rfl) ?_
                refine lv_iconst (v := 1) hx hb dX3_joinMore_159 (by decide) ?_
                refine lv_iload hx hb dX3_joinMore_160 (lv_at hl 2 rfl) ?_
                obtain ⟨v835, hm_v835⟩ : ∃ z : Int32, (1 : Int32) <<< (v99 &&& 31) = z := ⟨_, rfl⟩
                refine lv_ishl hx hb dX3_joinMore_162 ?_
                refine fx_ti hm_v835 ?_
                have hq_v835 := tk_rng v835
                obtain ⟨v836, hm_v836⟩ : ∃ z : Int32, p2 ||| v835 = z := ⟨_, rfl⟩
                refine lv_ior hx hb dX3_joinMore_163 ?_
                refine fx_ti hm_v836 ?_
                have hq_v836 := tk_rng v836
                refine lv_iload hx hb dX3_joinMore_164 (lv_at hl 0 rfl) ?_
                refine lv_iload hx hb dX3_joinMore_166 (lv_at hl 7 rfl) ?_
                refine lv_aload_n hx hb dX3_joinMore_168 rfl (lv_at hl 3 rfl) ?_
                refine tk_get (ci := 3) (C := RX3) (T := TX3) (N := 5) (sp := (8, 20, 3, 0)) hx hb htl inX3 hown hK hG ht_a0 (by decide) tk_no rfl 0 (by decide) (htl _ mw_175) (fun _ h9 => h9) rfl dX3_joinMore_169 (fun v9 hf837 hV9 => ?_)
                obtain ⟨rfl, ht_ld20⟩ := hV9
                have ht_ld20 : t (ld 20) = (3, 0, 0) := ht_ld20
                refine fx_top (v := .ref (ld 20)) rfl ?_
                refine tk_get (ci := 2) (C := RX2) (T := TX2) (N := 20) (sp := (11, 120, 37, 10)) hx hb htl inX2 hown hK hG ht_ld20 (by decide) tk_no rfl 10 (by decide) (htl _ mw_1463) (fun _ h9 => h9) rfl dX3_joinMore_172 (fun v9 hf838 hV9 => ?_)
                obtain ⟨rfl, ht_ld120⟩ := hV9
                have ht_ld120 : t (ld 120) = (37, 10, 0) := ht_ld120
                refine fx_top (v := .ref (ld 120)) rfl ?_
                refine lv_iload hx hb dX3_joinMore_175 (lv_at hl 2 rfl) ?_
                refine tk_iald hx hb hK hG ht_ld120 (by decide) (fun _ h => h) tk_no rfl (by omega) (by omega) dX3_joinMore_177 (fun v839 _ hz9 => ?_)
                have hr_v839 := tk_rng v839
                have ev_v839 : v839 = q3 v99.toNatClampNeg := hj1_9.at hz9 (by have h9 : v99.toNatClampNeg = v99.toInt.toNat := rfl; omega)
                have he_v839 : 1 ≤ v839.toInt ∧ v839.toInt ≤ 9 := by rw [ev_v839]; exact (hqr v99.toInt.toNat (by omega)).2
                have hee_v839 : v839.toInt = v779.toInt := congrArg Int32.toInt (ev_v839.trans ev_v779.symm)
                have hle_v839 : v839.toInt ≤ p4.toInt := by omega
                refine lv_isub hx hb dX3_joinMore_178 ?_
                refine tk_sub rfl rfl (by omega) (by omega) (fun v840 h_v840 => ?_)
                have hk_2 : (2 : Int32).toInt = 2 := by decide
                have hzr_v784 := mU_at hmu hag (j := 0) (by decide)
                have hzr_v784 : 0 ≤ v784.toInt ∧ v784.toInt < n2.toInt := by rw [ev_v784]; exact hzr_v784
                refine tk_Vv (As := [.int 2, .int v836, .int v834, .int v840]) (rest := []) (ci := 3) ⟨hx, hb, hml, hown, hts⟩ hK hG hZ hS (k_X3_joinMore_2_x l D cy ld t a0 v836 v834 v840 LL bj bb v100 v101 (upd f102 (1 : Int32).toNatClampNeg v99) f103 n0 n1 n2 n3 fh fs fk q1 q2 q3 ht_a0 ht_bj ht_bb ht_ld20 ht_ld70 ht_ld80 ht_ld90 ht_ld100 ht_ld110 ht_ld120 (by omega) (by omega) (by omega) (by omega) (by omega) (by omega) (by omega) (by omega) (by omega) (by omega) (by omega) (by omega) (by omega) (by omega) hqr (mU_next hmu hag (by omega) (by omega) (by omega) (by rw [hm_v773, hm_v774]; omega) (by rw [hm_v835, hm_v836]) ((mq_at (show ((v99.toInt.toNat : Nat) : Int) < n2.toInt by omega)).trans ev_v832.symm) ((mq_at (show ((v99.toInt.toNat : Nat) : Int) < n2.toInt by omega)).trans ev_v839.symm) (by decide) (mBon_y (by decide) (by decide) rfl ev_v784 (by have e7 : mq n2.toInt q2 v99.toInt.toNat = v788 := (mq_at (by omega)).trans ev_v788.symm; have e8 : mq n2.toInt q2 v784.toInt.toNat = v785 := (mq_at (by omega)).trans ev_v785.symm; rw [e7, e8]; exact m_eq (by omega))) (by omega) (by omega))) ⟨⟨hj0_0, hj0_1, hj0_2, hj0_3, hj829, hj0_5⟩, ⟨hj1_0, hj1_1, hj1_2, hj1_3, hj1_4, hj1_5, hj1_6, hj1_7, hj1_8, hj1_9⟩⟩ ⟨callB_of 4 hts (wl_in mw_1460) rfl rfl rfl (htl _ mw_48) (htl _ mw_1457) hd_yX3_joinMore ⟨(Nat.le_of_ble_eq_true rfl), (Nat.le_of_ble_eq_true rfl)⟩, htl _ mw_1458, htl _ mw_1459⟩ ht_a0 (by decide) tk_no rfl (tk_w.pick [0, 1, 2] rfl) rfl hl.1 rfl (Nat.le_of_ble_eq_true rfl) dX3_joinMore_179 ⟨(Nat.le_of_ble_eq_true rfl), (Nat.le_of_ble_eq_true rfl)⟩ (fun H locs hpo hG hS hq9 => ?_)
                have hj1_0 := hj1_0.call hq9 (tk_w.no ht_ld20 (by decide))
                have hj1_1 := hj1_1.call hq9 (tk_w.no ht_ld20 (by decide))
                have hj1_2 := hj1_2.call hq9 (tk_w.no ht_ld20 (by decide))
                have hj1_3 := hj1_3.call hq9 (tk_w.no ht_ld20 (by decide))
                have hj1_4 := hj1_4.call hq9 (tk_w.no ht_ld70 (by decide))
                have hj1_5 := hj1_5.call hq9 (tk_w.no ht_ld80 (by decide))
                have hj1_6 := hj1_6.call hq9 (tk_w.no ht_ld90 (by decide))
                have hj1_7 := hj1_7.call hq9 (tk_w.no ht_ld100 (by decide))
                have hj1_8 := hj1_8.call hq9 (tk_w.no ht_ld110 (by decide))
                have hj1_9 := hj1_9.call hq9 (tk_w.no ht_ld120 (by decide))
                obtain ⟨hraw842, ⟨hj843, hj844, hj845, hj846, hj847, hj848, hj849, hj850, hj851, hj852⟩⟩ := hpo
                obtain ⟨v859, v860, f861, f862, ⟨hM_853, hM_854, hM_855, hM_856, hM_857, hM_858⟩, ⟨hlo_v859, hhi_v859⟩, hg863, hP864⟩ := hraw842
                have hq_v860 := tk_rng v860
                obtain ⟨v865, h_v865, e_v865⟩ := tk_inc v99 1 (by decide) (by omega) (by omega)
                refine lv_iinc (v := v865) (lv' := [(5, .int v865), (7, .int v834), (6, .int 1), (0, .ref a0), (1, .int 1), (2, .int p2), (3, .int p3), (4, .int p4)]) hx hb dX3_joinMore_182 hl (k := 2) rfl e_v865 (by decide) rfl (fun ls hl => ?_)
                refine lv_goto (tgt := 45) hx hb dX3_joinMore_185 (by decide) ?_
                exact ih_l770 v865 v859 v860 f861 f862 _ _ (by omega) (by omega) (by omega) (by omega) (by omega) hG hS hM_853 hM_854 hM_855 hM_856 hM_857 hM_858 hj843 hj844 hj845 hj846 hj847 hj848 hj849 hj850 hj851 hj852 (mI_child (by omega) hmI9 (by omega) (by omega) (by omega) hmu.1 (mU_free hmu (by omega) (by omega) (by rw [hm_v773, hm_v774]; omega)) (by have h7 := hmu.2.2.2.1; have e7 : mq n2.toInt q3 v99.toInt.toNat = v779 := (mq_at (by omega)).trans ev_v779.symm; rw [e7]; omega) rfl hag (by decide) (by decide) hP864) ((hg863.mono (by decide)).trans (hag.pd (by decide))) _ (lv_sub hl [0, 3, 4, 5, 6, 7] rfl)
    have hk_0 : (0 : Int32).toInt = 0 := by decide
    have hk_0 : (0 : Int32).toInt = 0 := by decide
    exact hl770 11 0 bl bs J B _ _ (by omega) (by omega) (by omega) (by omega) (by omega) hG hS hj0_0 hj0_1 hj0_2 hj0_3 hj0_4 hj0_5 hj1_0 hj1_1 hj1_2 hj1_3 hj1_4 hj1_5 hj1_6 hj1_7 hj1_8 hj1_9 (mI_nt (by decide) (Or.inr (by have h7 := hmu.2.2.1; show _ ≤ bs.toInt; omega))) (mAg.refl _ _) _ (lv_sub hl [0, 1, 2, 3, 4, 5] rfl)
  · have hc1 : ¬ (p3.toInt ≤ bs.toInt) := fun h9 => c9 ((fi_le rfl rfl).mpr h9)
    refine lv_aload_n hx hb dX3_joinMore_12 rfl (lv_at hl 0 rfl) ?_
    refine lv_iload_n hx hb dX3_joinMore_13 rfl (lv_at hl 3 rfl) ?_
    refine tk_put (ci := 3) (v := .int p3) (ty := .int) (C := RX3) (T := TX3) (N := 5) (sp := (0, (-2147483648), 2147483647, 0)) hx hb htl inX3 tyX3 tyX3_ok nmX3 hown hK hG hS ht_a0 (by decide) tk_no rfl 4 (by decide) (htl _ mw_1456) (fun _ h9 => h9) rfl (tyX3_ok 4 (by decide)) rfl rfl rfl (tk_V0 (tk_rng _).1 (tk_rng _).2) (fun _ h => h) (tk_w.of ht_a0 (by decide) (List.mem_of_getElem? (i := 1) rfl) (Nat.le_refl _) (Nat.le_refl _)) dX3_joinMore_14 (fun H locs hG hS hf866 hq9 hj9 => ?_)
    have hj0_0 := hj9 1 _ (by decide) (by decide) hj0_0
    have hj0_1 := hj9 2 _ (by decide) (by decide) hj0_1
    have hj0_2 := hj9 3 _ (by decide) (by decide) hj0_2
    have hj0_4 := hj0_4.kept (hq9 _ (tk_ne ht_bj ht_a0 (Or.inl (by decide))))
    have hj0_5 := hj0_5.kept (hq9 _ (tk_ne ht_bb ht_a0 (Or.inl (by decide))))
    have hj1_0 := hj1_0.kept (hq9 _ (tk_ne ht_ld20 ht_a0 (Or.inl (by decide))))
    have hj1_1 := hj1_1.kept (hq9 _ (tk_ne ht_ld20 ht_a0 (Or.inl (by decide))))
    have hj1_2 := hj1_2.kept (hq9 _ (tk_ne ht_ld20 ht_a0 (Or.inl (by decide))))
    have hj1_3 := hj1_3.kept (hq9 _ (tk_ne ht_ld20 ht_a0 (Or.inl (by decide))))
    have hj1_4 := hj1_4.kept (hq9 _ (tk_ne ht_ld70 ht_a0 (Or.inl (by decide))))
    have hj1_5 := hj1_5.kept (hq9 _ (tk_ne ht_ld80 ht_a0 (Or.inl (by decide))))
    have hj1_6 := hj1_6.kept (hq9 _ (tk_ne ht_ld90 ht_a0 (Or.inl (by decide))))
    have hj1_7 := hj1_7.kept (hq9 _ (tk_ne ht_ld100 ht_a0 (Or.inl (by decide))))
    have hj1_8 := hj1_8.kept (hq9 _ (tk_ne ht_ld110 ht_a0 (Or.inl (by decide))))
    have hj1_9 := hj1_9.kept (hq9 _ (tk_ne ht_ld120 ht_a0 (Or.inl (by decide))))
    refine lv_aload_n hx hb dX3_joinMore_17 rfl (lv_at hl 0 rfl) ?_
    refine lv_iload_n hx hb dX3_joinMore_18 rfl (lv_at hl 1 rfl) ?_
    refine tk_put (ci := 3) (v := .int 1) (ty := .int) (C := RX3) (T := TX3) (N := 5) (sp := (0, 0, 4, 0)) hx hb htl inX3 tyX3 tyX3_ok nmX3 hown hK hG hS ht_a0 (by decide) tk_no rfl 3 (by decide) (htl _ mw_1455) (fun _ h9 => h9) rfl (tyX3_ok 3 (by decide)) rfl rfl rfl (tk_V0 (by decide) (by decide)) (fun _ h => h) (tk_w.of ht_a0 (by decide) (List.mem_of_getElem? (i := 1) rfl) (Nat.le_refl _) (Nat.le_refl _)) dX3_joinMore_19 (fun H locs hG hS hf868 hq9 hj9 => ?_)
    have hj0_0 := hj9 1 _ (by decide) (by decide) hj0_0
    have hj0_1 := hj9 2 _ (by decide) (by decide) hj0_1
    have hj0_4 := hj0_4.kept (hq9 _ (tk_ne ht_bj ht_a0 (Or.inl (by decide))))
    have hj0_5 := hj0_5.kept (hq9 _ (tk_ne ht_bb ht_a0 (Or.inl (by decide))))
    have hj1_0 := hj1_0.kept (hq9 _ (tk_ne ht_ld20 ht_a0 (Or.inl (by decide))))
    have hj1_1 := hj1_1.kept (hq9 _ (tk_ne ht_ld20 ht_a0 (Or.inl (by decide))))
    have hj1_2 := hj1_2.kept (hq9 _ (tk_ne ht_ld20 ht_a0 (Or.inl (by decide))))
    have hj1_3 := hj1_3.kept (hq9 _ (tk_ne ht_ld20 ht_a0 (Or.inl (by decide))))
    have hj1_4 := hj1_4.kept (hq9 _ (tk_ne ht_ld70 ht_a0 (Or.inl (by decide))))
    have hj1_5 := hj1_5.kept (hq9 _ (tk_ne ht_ld80 ht_a0 (Or.inl (by decide))))
    have hj1_6 := hj1_6.kept (hq9 _ (tk_ne ht_ld90 ht_a0 (Or.inl (by decide))))
    have hj1_7 := hj1_7.kept (hq9 _ (tk_ne ht_ld100 ht_a0 (Or.inl (by decide))))
    have hj1_8 := hj1_8.kept (hq9 _ (tk_ne ht_ld110 ht_a0 (Or.inl (by decide))))
    have hj1_9 := hj1_9.kept (hq9 _ (tk_ne ht_ld120 ht_a0 (Or.inl (by decide))))
    have hf866 := hj9 4 _ (by decide) (by decide) hf866
    refine lv_aload_n hx hb dX3_joinMore_22 rfl (lv_at hl 0 rfl) ?_
    refine tk_getk (ci := 3) (C := RX3) (T := TX3) (N := 5) (sp := (6, 22, 4, 0)) hx hb htl inX3 hown hK hG ht_a0 (by decide) tk_no rfl 1 (by decide) (htl _ mw_173) (fun _ h9 => h9) rfl hj0_0 dX3_joinMore_23 ?_
    refine lv_iconst (v := 0) hx hb dX3_joinMore_26 (by decide) ?_
    refine lv_aload_n hx hb dX3_joinMore_27 rfl (lv_at hl 0 rfl) ?_
    refine tk_getk (ci := 3) (C := RX3) (T := TX3) (N := 5) (sp := (6, 20, 4, 0)) hx hb htl inX3 hown hK hG ht_a0 (by decide) tk_no rfl 2 (by decide) (htl _ mw_174) (fun _ h9 => h9) rfl hj0_1 dX3_joinMore_28 ?_
    refine lv_iconst (v := 0) hx hb dX3_joinMore_31 (by decide) ?_
    refine lv_iconst (v := 4) hx hb dX3_joinMore_32 (by decide) ?_
    refine tk_copyC (SP := 0) (DP := 0) (NC := 4) hx hb (by rw [hml]; exact hl.1.symm) hown (htl _ mw_1461) (htl _ mw_655) (htl _ mw_656) (htl _ mw_657) hK hG hS ht_bj ht_bb (by decide) (by decide) (fun _ h => h) (fun _ => Iff.rfl) tk_no tk_no (show (0 : Int32).toInt = 0 by decide) (show (0 : Int32).toInt = 0 by decide) (show (4 : Int32).toInt = 4 by decide) (by decide) (by decide) (by decide) (by decide) (by decide) (fun _ _ _ _ _ => trivial) (tk_w.of ht_bb (by decide) (List.mem_of_getElem? (i := 2) rfl) (Nat.le_refl _) (Nat.le_refl _)) (Nat.le_of_ble_eq_true rfl) (Nat.le_of_ble_eq_true rfl) dX3_joinMore_33 hj0_4 rfl rfl rfl (fun H locs hG hS hq9 hj871 => ?_)
    have hj0_0 := hj0_0.kept (hq9 _ (tk_ne ht_a0 ht_bb (Or.inl (by decide))))
    have hj0_1 := hj0_1.kept (hq9 _ (tk_ne ht_a0 ht_bb (Or.inl (by decide))))
    have hj0_4 := hj0_4.kept (hq9 _ (tk_ne ht_bj ht_bb (Or.inl (by decide))))
    have hj1_0 := hj1_0.kept (hq9 _ (tk_ne ht_ld20 ht_bb (Or.inl (by decide))))
    have hj1_1 := hj1_1.kept (hq9 _ (tk_ne ht_ld20 ht_bb (Or.inl (by decide))))
    have hj1_2 := hj1_2.kept (hq9 _ (tk_ne ht_ld20 ht_bb (Or.inl (by decide))))
    have hj1_3 := hj1_3.kept (hq9 _ (tk_ne ht_ld20 ht_bb (Or.inl (by decide))))
    have hj1_4 := hj1_4.kept (hq9 _ (tk_ne ht_ld70 ht_bb (Or.inl (by decide))))
    have hj1_5 := hj1_5.kept (hq9 _ (tk_ne ht_ld80 ht_bb (Or.inl (by decide))))
    have hj1_6 := hj1_6.kept (hq9 _ (tk_ne ht_ld90 ht_bb (Or.inl (by decide))))
    have hj1_7 := hj1_7.kept (hq9 _ (tk_ne ht_ld100 ht_bb (Or.inl (by decide))))
    have hj1_8 := hj1_8.kept (hq9 _ (tk_ne ht_ld110 ht_bb (Or.inl (by decide))))
    have hj1_9 := hj1_9.kept (hq9 _ (tk_ne ht_ld120 ht_bb (Or.inl (by decide))))
    have hf866 := hf866.kept (hq9 _ (tk_ne ht_a0 ht_bb (Or.inl (by decide))))
    have hf868 := hf868.kept (hq9 _ (tk_ne ht_a0 ht_bb (Or.inl (by decide))))
    refine lv_iload_n hx hb dX3_joinMore_36 rfl (lv_at hl 1 rfl) ?_
    refine lv_iconst (v := 4) hx hb dX3_joinMore_37 (by decide) ?_
    refine lv_icmp_lt (tgt := 42) hx hb dX3_joinMore_38 (by decide) (fun _ => ?_) (fun c9 => absurd (by decide) c9)
    refine lv_iconst (v := 0) hx hb dX3_joinMore_42 (by decide) ?_
    refine lv_istore (lv' := [(5, .int 0), (0, .ref a0), (1, .int 1), (2, .int p2), (3, .int p3), (4, .int p4)]) hx hb dX3_joinMore_43 hl (by decide) rfl (fun ls hl => ?_)
    have hl1640 : ∀ (N_l1640 : Nat) (v969 : Int32) (f970 : Nat → Int32) (v971 : Int32) (v972 : Int32) (f973 : Nat → Int32) (H : Heap) (locs : List Loc), v969.toInt ≤ 10 → 0 ≤ v969.toInt → 0 ≤ v972.toInt → v972.toInt ≤ 4 → (-1) * v969.toInt + 10 < (N_l1640 : Int) → tk_G D cy ld t [] H → va_S (tk_w t [(22, 0, 0), (4, 0, 0), (20, 0, 0)]) s.heap H locs → tk_f D H a0 3 1 (.ref bj) → tk_f D H a0 3 2 (.ref bb) → tk_c H bj 4 f970 → tk_f D H (ld 20) 2 0 (.int n0) → tk_f D H (ld 20) 2 4 (.int n1) → tk_f D H (ld 20) 2 7 (.int n2) → tk_f D H (ld 20) 2 11 (.int n3) → tk_c H (ld 70) 8 fh → tk_c H (ld 80) 10 fs → tk_c H (ld 90) 10 fk → tk_c H (ld 100) 10 q1 → tk_c H (ld 110) 10 q2 → tk_c H (ld 120) 10 q3 → tk_f D H a0 3 4 (.int v971) → tk_f D H a0 3 3 (.int v972) → tk_c H bb 4 f973 → mI n2.toInt LL (mq n2.toInt q1) (mq n2.toInt q2) (mq n2.toInt q3) 1 J (bs.toInt, bl.toInt, B) v969.toInt (v971.toInt, v972.toInt, f973) → mAg 1 f970 J → ∀ ls : Array Slot, lv_has ls 8 [(5, .int v969), (0, .ref a0), (1, .int 1), (2, .int p2), (3, .int p3), (4, .int p4)] → W p l e ({ frames := 7, cells := 0, slots := 0, locals := 420 }) s m args below meth c H locs 0 0 (MQ below (tv D cy ld t [] (fun H => (∃ (bl9 bs9 : Int32) (J9 B9 : Nat → Int32), jM D a0 bj bb bl9 bs9 J9 B9 H ∧ (0 ≤ bl9.toInt ∧ bl9.toInt ≤ 4) ∧ mAg 1 J9 J ∧ mP n2.toInt LL (mq n2.toInt q1) (mq n2.toInt q2) (mq n2.toInt q3) 1 J (bs.toInt, bl.toInt, B) (bs9.toInt, bl9.toInt, B9)) ∧ jC D ld (ld 20) 0 n0 n1 n2 n3 fh fs fk q1 q2 q3 H) (tk_w t [(22, 0, 0), (4, 0, 0), (20, 0, 0)])) args s 0 0 (tk_w t [(22, 0, 0), (4, 0, 0), (20, 0, 0)])) (F0 m 45 ls []) := by
      intro N_l1640
      induction N_l1640 with
      | zero => intro v969 f970 v971 v972 f973 H locs hq0_l1640 hq1_l1640 hq2_l1640 hq3_l1640 hm_l1640 hG hS hj0_0 hj0_1 hj0_4 hj1_0 hj1_1 hj1_2 hj1_3 hj1_4 hj1_5 hj1_6 hj1_7 hj1_8 hj1_9 hf866 hf868 hj871 hmI9 hag ls hl; exfalso; omega
      | succ N_l1640 ih_l1640 =>
        intro v969 f970 v971 v972 f973 H locs hq0_l1640 hq1_l1640 hq2_l1640 hq3_l1640 hm_l1640 hG hS hj0_0 hj0_1 hj0_4 hj1_0 hj1_1 hj1_2 hj1_3 hj1_4 hj1_5 hj1_6 hj1_7 hj1_8 hj1_9 hf866 hf868 hj871 hmI9 hag ls hl
        refine lv_iload hx hb dX3_joinMore_45 (lv_at hl 0 rfl) ?_
        refine lv_aload_n hx hb dX3_joinMore_47 rfl (lv_at hl 1 rfl) ?_
        refine tk_get (ci := 3) (C := RX3) (T := TX3) (N := 5) (sp := (8, 20, 3, 0)) hx hb htl inX3 hown hK hG ht_a0 (by decide) tk_no rfl 0 (by decide) (htl _ mw_175) (fun _ h9 => h9) rfl dX3_joinMore_48 (fun v9 hf1641 hV9 => ?_)
        obtain ⟨rfl, ht_ld20⟩ := hV9
        have ht_ld20 : t (ld 20) = (3, 0, 0) := ht_ld20
        refine fx_top (v := .ref (ld 20)) rfl ?_
        refine tk_getk (ci := 2) (C := RX2) (T := TX2) (N := 20) (sp := (0, 0, 10, 0)) hx hb htl inX2 hown hK hG ht_ld20 (by decide) tk_no rfl 7 (by decide) (htl _ mw_1462) (fun _ h9 => h9) rfl hj1_2 dX3_joinMore_51 ?_
        refine lv_icmp_ge (tgt := 188) hx hb dX3_joinMore_54 (by decide) (fun c9 => ?_) (fun c9 => ?_)
        · have hc1642 : n2.toInt ≤ v969.toInt := (fi_le rfl rfl).mp c9
          exact tk_vret hx hb hr hlocks (show (∃ (bl9 bs9 : Int32) (J9 B9 : Nat → Int32), jM D a0 bj bb bl9 bs9 J9 B9 H ∧ (0 ≤ bl9.toInt ∧ bl9.toInt ≤ 4) ∧ mAg 1 J9 J ∧ mP n2.toInt LL (mq n2.toInt q1) (mq n2.toInt q2) (mq n2.toInt q3) 1 J (bs.toInt, bl.toInt, B) (bs9.toInt, bl9.toInt, B9)) ∧ jC D ld (ld 20) 0 n0 n1 n2 n3 fh fs fk q1 q2 q3 H from ⟨⟨v972, v971, f970, f973, ⟨hj0_0, hj0_1, hf868, hf866, hj0_4, hj871⟩, ⟨by omega, by omega⟩, hag, (mI_end hmI9 (by omega) (by omega) (by omega))⟩, ⟨hj1_0, hj1_1, hj1_2, hj1_3, hj1_4, hj1_5, hj1_6, hj1_7, hj1_8, hj1_9⟩⟩) hG hS dX3_joinMore_188
        · have hc1642 : ¬ (n2.toInt ≤ v969.toInt) := fun h9 => c9 ((fi_le rfl rfl).mpr h9)
          refine lv_iload_n hx hb dX3_joinMore_57 rfl (lv_at hl 3 rfl) ?_
          refine lv_iload hx hb dX3_joinMore_58 (lv_at hl 0 rfl) ?_
          obtain ⟨v1643, hm_v1643⟩ : ∃ z : Int32, p2 >>> (v969 &&& 31) = z := ⟨_, rfl⟩
          refine lv_ishr hx hb dX3_joinMore_60 ?_
          refine fx_ti hm_v1643 ?_
          have hq_v1643 := tk_rng v1643
          refine lv_iconst (v := 1) hx hb dX3_joinMore_61 (by decide) ?_
          obtain ⟨v1644, hm_v1644⟩ : ∃ z : Int32, v1643 &&& (1 : Int32) = z := ⟨_, rfl⟩
          refine lv_iand hx hb dX3_joinMore_62 ?_
          refine fx_ti hm_v1644 ?_
          have h_v1644 : 0 ≤ v1644.toInt ∧ v1644.toInt ≤ 1 := hm_v1644 ▸ tk_and v1643 1 (by decide) (by decide)
          refine lv_if_ne (tgt := 182) hx hb dX3_joinMore_63 (by decide) (fun c9 => ?_) (fun c9 => ?_)
          · have hc1645 : ¬ (v1644.toInt = 0) := fun h9 => c9 ((fi_eq rfl (show (0 : Int32).toInt = 0 by decide)).mpr h9)
            obtain ⟨v1646, h_v1646, e_v1646⟩ := tk_inc v969 1 (by decide) (by omega) (by omega)
            refine lv_iinc (v := v1646) (lv' := [(5, .int v1646), (0, .ref a0), (1, .int 1), (2, .int p2), (3, .int p3), (4, .int p4)]) hx hb dX3_joinMore_182 hl (k := 0) rfl e_v1646 (by decide) rfl (fun ls hl => ?_)
            refine lv_goto (tgt := 45) hx hb dX3_joinMore_185 (by decide) ?_
            exact ih_l1640 v1646 f970 v971 v972 f973 _ _ (by omega) (by omega) (by omega) (by omega) (by omega) hG hS hj0_0 hj0_1 hj0_4 hj1_0 hj1_1 hj1_2 hj1_3 hj1_4 hj1_5 hj1_6 hj1_7 hj1_8 hj1_9 hf866 hf868 hj871 (mI_skip (by omega) hmI9 (by omega) (by omega) (by omega) (Or.inl (mU_used hmu (by omega) (by omega) (by rw [hm_v1643, hm_v1644]; omega)))) hag _ (lv_sub hl [0, 1, 2, 3, 4, 5] rfl)
          · have hc1645 : v1644.toInt = 0 := (fi_eq rfl (show (0 : Int32).toInt = 0 by decide)).mp c9
            refine lv_aload_n hx hb dX3_joinMore_66 rfl (lv_at hl 1 rfl) ?_
            refine tk_get (ci := 3) (C := RX3) (T := TX3) (N := 5) (sp := (8, 20, 3, 0)) hx hb htl inX3 hown hK hG ht_a0 (by decide) tk_no rfl 0 (by decide) (htl _ mw_175) (fun _ h9 => h9) rfl dX3_joinMore_67 (fun v9 hf1647 hV9 => ?_)
            obtain ⟨rfl, ht_ld20⟩ := hV9
            have ht_ld20 : t (ld 20) = (3, 0, 0) := ht_ld20
            refine fx_top (v := .ref (ld 20)) rfl ?_
            refine tk_get (ci := 2) (C := RX2) (T := TX2) (N := 20) (sp := (11, 120, 37, 10)) hx hb htl inX2 hown hK hG ht_ld20 (by decide) tk_no rfl 10 (by decide) (htl _ mw_1463) (fun _ h9 => h9) rfl dX3_joinMore_70 (fun v9 hf1648 hV9 => ?_)
            obtain ⟨rfl, ht_ld120⟩ := hV9
            have ht_ld120 : t (ld 120) = (37, 10, 0) := ht_ld120
            refine fx_top (v := .ref (ld 120)) rfl ?_
            refine lv_iload hx hb dX3_joinMore_73 (lv_at hl 0 rfl) ?_
            refine tk_iald hx hb hK hG ht_ld120 (by decide) (fun _ h => h) tk_no rfl (by omega) (by omega) dX3_joinMore_75 (fun v1649 _ hz9 => ?_)
            have hr_v1649 := tk_rng v1649
            have ev_v1649 : v1649 = q3 v969.toNatClampNeg := hj1_9.at hz9 (by have h9 : v969.toNatClampNeg = v969.toInt.toNat := rfl; omega)
            have he_v1649 : 1 ≤ v1649.toInt ∧ v1649.toInt ≤ 9 := by rw [ev_v1649]; exact (hqr v969.toInt.toNat (by omega)).2
            refine lv_iload hx hb dX3_joinMore_76 (lv_at hl 5 rfl) ?_
            refine lv_icmp_gt (tgt := 182) hx hb dX3_joinMore_78 (by decide) (fun c9 => ?_) (fun c9 => ?_)
            · have hc1650 : p4.toInt < v1649.toInt := (fi_lt rfl rfl).mp c9
              obtain ⟨v1651, h_v1651, e_v1651⟩ := tk_inc v969 1 (by decide) (by omega) (by omega)
              refine lv_iinc (v := v1651) (lv' := [(5, .int v1651), (0, .ref a0), (1, .int 1), (2, .int p2), (3, .int p3), (4, .int p4)]) hx hb dX3_joinMore_182 hl (k := 0) rfl e_v1651 (by decide) rfl (fun ls hl => ?_)
              refine lv_goto (tgt := 45) hx hb dX3_joinMore_185 (by decide) ?_
              exact ih_l1640 v1651 f970 v971 v972 f973 _ _ (by omega) (by omega) (by omega) (by omega) (by omega) hG hS hj0_0 hj0_1 hj0_4 hj1_0 hj1_1 hj1_2 hj1_3 hj1_4 hj1_5 hj1_6 hj1_7 hj1_8 hj1_9 hf866 hf868 hj871 (mI_skip (by omega) hmI9 (by omega) (by omega) (by omega) (Or.inr (by have h7 := hmu.2.2.2.1; have e7 : mq n2.toInt q3 v969.toInt.toNat = v1649 := (mq_at (by omega)).trans ev_v1649.symm; rw [e7]; omega))) hag _ (lv_sub hl [0, 1, 2, 3, 4, 5] rfl)
            · have hc1650 : ¬ (p4.toInt < v1649.toInt) := fun h9 => c9 ((fi_lt rfl rfl).mpr h9)
              refine lv_iload_n hx hb dX3_joinMore_81 rfl (lv_at hl 2 rfl) ?_
              refine lv_if_le (tgt := 118) hx hb dX3_joinMore_82 (by decide) (fun c9 => absurd c9 (by decide)) (fun _ => ?_)
              refine lv_aload_n hx hb dX3_joinMore_85 rfl (lv_at hl 1 rfl) ?_
              refine tk_get (ci := 3) (C := RX3) (T := TX3) (N := 5) (sp := (8, 20, 3, 0)) hx hb htl inX3 hown hK hG ht_a0 (by decide) tk_no rfl 0 (by decide) (htl _ mw_175) (fun _ h9 => h9) rfl dX3_joinMore_86 (fun v9 hf1652 hV9 => ?_)
              obtain ⟨rfl, ht_ld20⟩ := hV9
              have ht_ld20 : t (ld 20) = (3, 0, 0) := ht_ld20
              refine fx_top (v := .ref (ld 20)) rfl ?_
              refine tk_get (ci := 2) (C := RX2) (T := TX2) (N := 20) (sp := (11, 110, 36, 10)) hx hb htl inX2 hown hK hG ht_ld20 (by decide) tk_no rfl 9 (by decide) (htl _ mw_1464) (fun _ h9 => h9) rfl dX3_joinMore_89 (fun v9 hf1653 hV9 => ?_)
              obtain ⟨rfl, ht_ld110⟩ := hV9
              have ht_ld110 : t (ld 110) = (36, 10, 0) := ht_ld110
              refine fx_top (v := .ref (ld 110)) rfl ?_
              refine lv_aload_n hx hb dX3_joinMore_92 rfl (lv_at hl 1 rfl) ?_
              refine tk_getk (ci := 3) (C := RX3) (T := TX3) (N := 5) (sp := (6, 22, 4, 0)) hx hb htl inX3 hown hK hG ht_a0 (by decide) tk_no rfl 1 (by decide) (htl _ mw_173) (fun _ h9 => h9) rfl hj0_0 dX3_joinMore_93 ?_
              refine lv_iload_n hx hb dX3_joinMore_96 rfl (lv_at hl 2 rfl) ?_
              refine lv_iconst (v := 1) hx hb dX3_joinMore_97 (by decide) ?_
              refine lv_isub hx hb dX3_joinMore_98 ?_
              refine fx_ti (v := 0) (by decide) ?_
              refine tk_iald hx hb hK hG ht_bj (by decide) (fun _ h => h) tk_no (I := 0) (by decide) (by decide) (by decide) dX3_joinMore_99 (fun v1654 hE9 hz9 => ?_)
              have he_v1654 : 0 ≤ v1654.toInt ∧ v1654.toInt ≤ 9 := hE9
              have ev_v1654 : v1654 = f970 (0 : Int32).toNatClampNeg := hj0_4.at hz9 (by decide)
              refine tk_iald hx hb hK hG ht_ld110 (by decide) (fun _ h => h) tk_no rfl (by omega) (by omega) dX3_joinMore_100 (fun v1655 _ hz9 => ?_)
              have hr_v1655 := tk_rng v1655
              have ev_v1655 : v1655 = q2 v1654.toNatClampNeg := hj1_8.at hz9 (by have h9 : v1654.toNatClampNeg = v1654.toInt.toNat := rfl; omega)
              refine lv_aload_n hx hb dX3_joinMore_101 rfl (lv_at hl 1 rfl) ?_
              refine tk_get (ci := 3) (C := RX3) (T := TX3) (N := 5) (sp := (8, 20, 3, 0)) hx hb htl inX3 hown hK hG ht_a0 (by decide) tk_no rfl 0 (by decide) (htl _ mw_175) (fun _ h9 => h9) rfl dX3_joinMore_102 (fun v9 hf1656 hV9 => ?_)
              obtain ⟨rfl, ht_ld20⟩ := hV9
              have ht_ld20 : t (ld 20) = (3, 0, 0) := ht_ld20
              refine fx_top (v := .ref (ld 20)) rfl ?_
              refine tk_get (ci := 2) (C := RX2) (T := TX2) (N := 20) (sp := (11, 110, 36, 10)) hx hb htl inX2 hown hK hG ht_ld20 (by decide) tk_no rfl 9 (by decide) (htl _ mw_1464) (fun _ h9 => h9) rfl dX3_joinMore_105 (fun v9 hf1657 hV9 => ?_)
              obtain ⟨rfl, ht_ld110⟩ := hV9
              have ht_ld110 : t (ld 110) = (36, 10, 0) := ht_ld110
              refine fx_top (v := .ref (ld 110)) rfl ?_
              refine lv_iload hx hb dX3_joinMore_108 (lv_at hl 0 rfl) ?_
              refine tk_iald hx hb hK hG ht_ld110 (by decide) (fun _ h => h) tk_no rfl (by omega) (by omega) dX3_joinMore_110 (fun v1658 _ hz9 => ?_)
              have hr_v1658 := tk_rng v1658
              have ev_v1658 : v1658 = q2 v969.toNatClampNeg := hj1_8.at hz9 (by have h9 : v969.toNatClampNeg = v969.toInt.toNat := rfl; omega)
              refine lv_icmp_ne (tgt := 118) hx hb dX3_joinMore_111 (by decide) (fun c9 => ?_) (fun c9 => ?_)
              · have hc1659 : ¬ (v1655.toInt = v1658.toInt) := fun h9 => c9 ((fi_eq rfl rfl).mpr h9)
                refine lv_iconst (v := 0) hx hb dX3_joinMore_118 (by decide) ?_
                refine lv_istore (lv' := [(6, .int 0), (5, .int v969), (0, .ref a0), (1, .int 1), (2, .int p2), (3, .int p3), (4, .int p4)]) hx hb dX3_joinMore_119 hl (by decide) rfl (fun ls hl => ?_)
                refine lv_aload_n hx hb dX3_joinMore_121 rfl (lv_at hl 2 rfl) ?_
                refine tk_getk (ci := 3) (C := RX3) (T := TX3) (N := 5) (sp := (6, 22, 4, 0)) hx hb htl inX3 hown hK hG ht_a0 (by decide) tk_no rfl 1 (by decide) (htl _ mw_173) (fun _ h9 => h9) rfl hj0_0 dX3_joinMore_122 ?_
                refine lv_iload_n hx hb dX3_joinMore_125 rfl (lv_at hl 3 rfl) ?_
                refine lv_iload hx hb dX3_joinMore_126 (lv_at hl 1 rfl) ?_
                refine tk_iastC hx hb hK hG hS ht_bj (by decide) (fun _ => Iff.rfl) tk_no (I := 1) (by decide) (by decide) (by decide) (show 0 ≤ (v969 : Int32).toInt ∧ (v969 : Int32).toInt ≤ 9 from ⟨by omega, by omega⟩) (tk_w.of ht_bj (by decide) (List.mem_of_getElem? (i := 0) rfl) (Nat.le_refl _) (Nat.le_refl _)) dX3_joinMore_128 hj0_4 (fun H locs hG hS hq9 hj1661 => ?_)
                have hj1661 : tk_c H bj 4 (upd f970 (1 : Int32).toNatClampNeg v969) := hj1661
                have hj0_0 := hj0_0.kept (hq9 _ (tk_ne ht_a0 ht_bj (Or.inl (by decide))))
                have hj0_1 := hj0_1.kept (hq9 _ (tk_ne ht_a0 ht_bj (Or.inl (by decide))))
                have hj1_0 := hj1_0.kept (hq9 _ (tk_ne ht_ld20 ht_bj (Or.inl (by decide))))
                have hj1_1 := hj1_1.kept (hq9 _ (tk_ne ht_ld20 ht_bj (Or.inl (by decide))))
                have hj1_2 := hj1_2.kept (hq9 _ (tk_ne ht_ld20 ht_bj (Or.inl (by decide))))
                have hj1_3 := hj1_3.kept (hq9 _ (tk_ne ht_ld20 ht_bj (Or.inl (by decide))))
                have hj1_4 := hj1_4.kept (hq9 _ (tk_ne ht_ld70 ht_bj (Or.inl (by decide))))
                have hj1_5 := hj1_5.kept (hq9 _ (tk_ne ht_ld80 ht_bj (Or.inl (by decide))))
                have hj1_6 := hj1_6.kept (hq9 _ (tk_ne ht_ld90 ht_bj (Or.inl (by decide))))
                have hj1_7 := hj1_7.kept (hq9 _ (tk_ne ht_ld100 ht_bj (Or.inl (by decide))))
                have hj1_8 := hj1_8.kept (hq9 _ (tk_ne ht_ld110 ht_bj (Or.inl (by decide))))
                have hj1_9 := hj1_9.kept (hq9 _ (tk_ne ht_ld120 ht_bj (Or.inl (by decide))))
                have hf866 := hf866.kept (hq9 _ (tk_ne ht_a0 ht_bj (Or.inl (by decide))))
                have hf868 := hf868.kept (hq9 _ (tk_ne ht_a0 ht_bj (Or.inl (by decide))))
                have hj871 := hj871.kept (hq9 _ (tk_ne ht_bb ht_bj (Or.inl (by decide))))
                refine lv_iload_n hx hb dX3_joinMore_129 rfl (lv_at hl 5 rfl) ?_
                refine lv_aload_n hx hb dX3_joinMore_130 rfl (lv_at hl 2 rfl) ?_
                refine tk_get (ci := 3) (C := RX3) (T := TX3) (N := 5) (sp := (8, 20, 3, 0)) hx hb htl inX3 hown hK hG ht_a0 (by decide) tk_no rfl 0 (by decide) (htl _ mw_175) (fun _ h9 => h9) rfl dX3_joinMore_131 (fun v9 hf1662 hV9 => ?_)
                obtain ⟨rfl, ht_ld20⟩ := hV9
                have ht_ld20 : t (ld 20) = (3, 0, 0) := ht_ld20
                refine fx_top (v := .ref (ld 20)) rfl ?_
                refine tk_get (ci := 2) (C := RX2) (T := TX2) (N := 20) (sp := (11, 100, 35, 10)) hx hb htl inX2 hown hK hG ht_ld20 (by decide) tk_no rfl 8 (by decide) (htl _ mw_1465) (fun _ h9 => h9) rfl dX3_joinMore_134 (fun v9 hf1663 hV9 => ?_)
                obtain ⟨rfl, ht_ld100⟩ := hV9
                have ht_ld100 : t (ld 100) = (35, 10, 0) := ht_ld100
                refine fx_top (v := .ref (ld 100)) rfl ?_
                refine lv_iload hx hb dX3_joinMore_137 (lv_at hl 1 rfl) ?_
                refine tk_iald hx hb hK hG ht_ld100 (by decide) (fun _ h => h) tk_no rfl (by omega) (by omega) dX3_joinMore_139 (fun v1664 _ hz9 => ?_)
                have hr_v1664 := tk_rng v1664
                have ev_v1664 : v1664 = q1 v969.toNatClampNeg := hj1_7.at hz9 (by have h9 : v969.toNatClampNeg = v969.toInt.toNat := rfl; omega)
                have he_v1664 : 1 ≤ v1664.toInt ∧ v1664.toInt ≤ 99 := by rw [ev_v1664]; exact (hqr v969.toInt.toNat (by omega)).1
                refine lv_iadd hx hb dX3_joinMore_140 ?_
                refine tk_add rfl rfl (by omega) (by omega) (fun v1665 h_v1665 => ?_)
                refine lv_iload hx hb dX3_joinMore_141 (lv_at hl 0 rfl) ?_
                refine lv_if_eq (tgt := 150) hx hb dX3_joinMore_143 (by decide) (fun _ => ?_) (fun c9 => absurd (by decide) c9)
                refine lv_iconst (v := 0) hx hb dX3_joinMore_150 (by decide) ?_
                refine lv_iadd hx hb dX3_joinMore_151 ?_
                refine tk_add rfl (show (0 : Int32).toInt = 0 by decide) (by omega) (by omega) (fun v1666 h_v1666 => ?_)
                refine lv_istore (lv' := [(7, .int v1666), (6, .int 0), (5, .int v969), (0, .ref a0), (1, .int 1), (2, .int p2), (3, .int p3), (4, .int p4)]) hx hb dX3_joinMore_152 hl (by decide) rfl (fun ls hl => ?_)
                refine lv_aload_n hx hb dX3_joinMore_154 rfl (lv_at hl 3 rfl) ?_
                refine lv_iload_n hx hb dX3_joinMore_155 rfl (lv_at hl 4 rfl) ?_
                refine lv_iconst (v := 1) hx hb dX3_joinMore_156 (by decide) ?_
                refine lv_iadd hx hb dX3_joinMore_157 ?_
                refine fx_ti (v := 2) (by decide) ?_
                refine lv_iload_n hx hb dX3_joinMore_158 rfl (lv_at hl 5 rfl) ?_
                refine lv_iconst (v := 1) hx hb dX3_joinMore_159 (by decide) ?_
                refine lv_iload hx hb dX3_joinMore_160 (lv_at hl 2 rfl) ?_
                obtain ⟨v1667, hm_v1667⟩ : ∃ z : Int32, (1 : Int32) <<< (v969 &&& 31) = z := ⟨_, rfl⟩
                refine lv_ishl hx hb dX3_joinMore_162 ?_
                refine fx_ti hm_v1667 ?_
                have hq_v1667 := tk_rng v1667
                obtain ⟨v1668, hm_v1668⟩ : ∃ z : Int32, p2 ||| v1667 = z := ⟨_, rfl⟩
                refine lv_ior hx hb dX3_joinMore_163 ?_
                refine fx_ti hm_v1668 ?_
                have hq_v1668 := tk_rng v1668
                refine lv_iload hx hb dX3_joinMore_164 (lv_at hl 0 rfl) ?_
                refine lv_iload hx hb dX3_joinMore_166 (lv_at hl 7 rfl) ?_
                refine lv_aload_n hx hb dX3_joinMore_168 rfl (lv_at hl 3 rfl) ?_
                refine tk_get (ci := 3) (C := RX3) (T := TX3) (N := 5) (sp := (8, 20, 3, 0)) hx hb htl inX3 hown hK hG ht_a0 (by decide) tk_no rfl 0 (by decide) (htl _ mw_175) (fun _ h9 => h9) rfl dX3_joinMore_169 (fun v9 hf1669 hV9 => ?_)
                obtain ⟨rfl, ht_ld20⟩ := hV9
                have ht_ld20 : t (ld 20) = (3, 0, 0) := ht_ld20
                refine fx_top (v := .ref (ld 20)) rfl ?_
                refine tk_get (ci := 2) (C := RX2) (T := TX2) (N := 20) (sp := (11, 120, 37, 10)) hx hb htl inX2 hown hK hG ht_ld20 (by decide) tk_no rfl 10 (by decide) (htl _ mw_1463) (fun _ h9 => h9) rfl dX3_joinMore_172 (fun v9 hf1670 hV9 => ?_)
                obtain ⟨rfl, ht_ld120⟩ := hV9
                have ht_ld120 : t (ld 120) = (37, 10, 0) := ht_ld120
                refine fx_top (v := .ref (ld 120)) rfl ?_
                refine lv_iload hx hb dX3_joinMore_175 (lv_at hl 2 rfl) ?_
                refine tk_iald hx hb hK hG ht_ld120 (by decide) (fun _ h => h) tk_no rfl (by omega) (by omega) dX3_joinMore_177 (fun v1671 _ hz9 => ?_)
                have hr_v1671 := tk_rng v1671
                have ev_v1671 : v1671 = q3 v969.toNatClampNeg := hj1_9.at hz9 (by have h9 : v969.toNatClampNeg = v969.toInt.toNat := rfl; omega)
                have he_v1671 : 1 ≤ v1671.toInt ∧ v1671.toInt ≤ 9 := by rw [ev_v1671]; exact (hqr v969.toInt.toNat (by omega)).2
                have hee_v1671 : v1671.toInt = v1649.toInt := congrArg Int32.toInt (ev_v1671.trans ev_v1649.symm)
                have hle_v1671 : v1671.toInt ≤ p4.toInt := by omega
                refine lv_isub hx hb dX3_joinMore_178 ?_
                refine tk_sub rfl rfl (by omega) (by omega) (fun v1672 h_v1672 => ?_)
                have hk_2 : (2 : Int32).toInt = 2 := by decide
                have hzr_v1654 := mU_at hmu hag (j := 0) (by decide)
                have hzr_v1654 : 0 ≤ v1654.toInt ∧ v1654.toInt < n2.toInt := by rw [ev_v1654]; exact hzr_v1654
                refine tk_Vv (As := [.int 2, .int v1668, .int v1666, .int v1672]) (rest := []) (ci := 3) ⟨hx, hb, hml, hown, hts⟩ hK hG hZ hS (k_X3_joinMore_2_x l D cy ld t a0 v1668 v1666 v1672 LL bj bb v972 v971 (upd f970 (1 : Int32).toNatClampNeg v969) f973 n0 n1 n2 n3 fh fs fk q1 q2 q3 ht_a0 ht_bj ht_bb ht_ld20 ht_ld70 ht_ld80 ht_ld90 ht_ld100 ht_ld110 ht_ld120 (by omega) (by omega) (by omega) (by omega) (by omega) (by omega) (by omega) (by omega) (by omega) (by omega) (by omega) (by omega) (by omega) (by omega) hqr (mU_next hmu hag (by omega) (by omega) (by omega) (by rw [hm_v1643, hm_v1644]; omega) (by rw [hm_v1667, hm_v1668]) ((mq_at (show ((v969.toInt.toNat : Nat) : Int) < n2.toInt by omega)).trans ev_v1664.symm) ((mq_at (show ((v969.toInt.toNat : Nat) : Int) < n2.toInt by omega)).trans ev_v1671.symm) (by decide) (mBon_n (by decide) (by decide) rfl ev_v1654 (by have e7 : mq n2.toInt q2 v969.toInt.toNat = v1658 := (mq_at (by omega)).trans ev_v1658.symm; have e8 : mq n2.toInt q2 v1654.toInt.toNat = v1655 := (mq_at (by omega)).trans ev_v1655.symm; rw [e7, e8]; intro h9; have h8 := congrArg Int32.toInt h9; omega)) (by omega) (by omega))) ⟨⟨hj0_0, hj0_1, hf868, hf866, hj1661, hj871⟩, ⟨hj1_0, hj1_1, hj1_2, hj1_3, hj1_4, hj1_5, hj1_6, hj1_7, hj1_8, hj1_9⟩⟩ ⟨callB_of 4 hts (wl_in mw_1460) rfl rfl rfl (htl _ mw_48) (htl _ mw_1457) hd_yX3_joinMore ⟨(Nat.le_of_ble_eq_true rfl), (Nat.le_of_ble_eq_true rfl)⟩, htl _ mw_1458, htl _ mw_1459⟩ ht_a0 (by decide) tk_no rfl (tk_w.pick [0, 1, 2] rfl) rfl hl.1 rfl (Nat.le_of_ble_eq_true rfl) dX3_joinMore_179 ⟨(Nat.le_of_ble_eq_true rfl), (Nat.le_of_ble_eq_true rfl)⟩ (fun H locs hpo hG hS hq9 => ?_)
                have hj1_0 := hj1_0.call hq9 (tk_w.no ht_ld20 (by decide))
                have hj1_1 := hj1_1.call hq9 (tk_w.no ht_ld20 (by decide))
                have hj1_2 := hj1_2.call hq9 (tk_w.no ht_ld20 (by decide))
                have hj1_3 := hj1_3.call hq9 (tk_w.no ht_ld20 (by decide))
                have hj1_4 := hj1_4.call hq9 (tk_w.no ht_ld70 (by decide))
                have hj1_5 := hj1_5.call hq9 (tk_w.no ht_ld80 (by decide))
                have hj1_6 := hj1_6.call hq9 (tk_w.no ht_ld90 (by decide))
                have hj1_7 := hj1_7.call hq9 (tk_w.no ht_ld100 (by decide))
                have hj1_8 := hj1_8.call hq9 (tk_w.no ht_ld110 (by decide))
                have hj1_9 := hj1_9.call hq9 (tk_w.no ht_ld120 (by decide))
                obtain ⟨hraw1674, ⟨hj1675, hj1676, hj1677, hj1678, hj1679, hj1680, hj1681, hj1682, hj1683, hj1684⟩⟩ := hpo
                obtain ⟨v1691, v1692, f1693, f1694, ⟨hM_1685, hM_1686, hM_1687, hM_1688, hM_1689, hM_1690⟩, ⟨hlo_v1691, hhi_v1691⟩, hg1695, hP1696⟩ := hraw1674
                have hq_v1692 := tk_rng v1692
                obtain ⟨v1697, h_v1697, e_v1697⟩ := tk_inc v969 1 (by decide) (by omega) (by omega)
                refine lv_iinc (v := v1697) (lv' := [(5, .int v1697), (7, .int v1666), (6, .int 0), (0, .ref a0), (1, .int 1), (2, .int p2), (3, .int p3), (4, .int p4)]) hx hb dX3_joinMore_182 hl (k := 2) rfl e_v1697 (by decide) rfl (fun ls hl => ?_)
                refine lv_goto (tgt := 45) hx hb dX3_joinMore_185 (by decide) ?_
                exact ih_l1640 v1697 f1693 v1692 v1691 f1694 _ _ (by omega) (by omega) (by omega) (by omega) (by omega) hG hS hM_1685 hM_1686 hM_1689 hj1675 hj1676 hj1677 hj1678 hj1679 hj1680 hj1681 hj1682 hj1683 hj1684 hM_1688 hM_1687 hM_1690 (mI_child (by omega) hmI9 (by omega) (by omega) (by omega) hmu.1 (mU_free hmu (by omega) (by omega) (by rw [hm_v1643, hm_v1644]; omega)) (by have h7 := hmu.2.2.2.1; have e7 : mq n2.toInt q3 v969.toInt.toNat = v1649 := (mq_at (by omega)).trans ev_v1649.symm; rw [e7]; omega) rfl hag (by decide) (by decide) hP1696) ((hg1695.mono (by decide)).trans (hag.pd (by decide))) _ (lv_sub hl [0, 3, 4, 5, 6, 7] rfl)
              · have hc1659 : v1655.toInt = v1658.toInt := (fi_eq rfl rfl).mp c9
                refine lv_iconst (v := 1) hx hb dX3_joinMore_114 (by decide) ?_
                refine lv_goto (tgt := 119) hx hb dX3_joinMore_115 (by decide) ?_
                refine lv_istore (lv' := [(6, .int 1), (5, .int v969), (0, .ref a0), (1, .int 1), (2, .int p2), (3, .int p3), (4, .int p4)]) hx hb dX3_joinMore_119 hl (by decide) rfl (fun ls hl => ?_)
                refine lv_aload_n hx hb dX3_joinMore_121 rfl (lv_at hl 2 rfl) ?_
                refine tk_getk (ci := 3) (C := RX3) (T := TX3) (N := 5) (sp := (6, 22, 4, 0)) hx hb htl inX3 hown hK hG ht_a0 (by decide) tk_no rfl 1 (by decide) (htl _ mw_173) (fun _ h9 => h9) rfl hj0_0 dX3_joinMore_122 ?_
                refine lv_iload_n hx hb dX3_joinMore_125 rfl (lv_at hl 3 rfl) ?_
                refine lv_iload hx hb dX3_joinMore_126 (lv_at hl 1 rfl) ?_
                refine tk_iastC hx hb hK hG hS ht_bj (by decide) (fun _ => Iff.rfl) tk_no (I := 1) (by decide) (by decide) (by decide) (show 0 ≤ (v969 : Int32).toInt ∧ (v969 : Int32).toInt ≤ 9 from ⟨by omega, by omega⟩) (tk_w.of ht_bj (by decide) (List.mem_of_getElem? (i := 0) rfl) (Nat.le_refl _) (Nat.le_refl _)) dX3_joinMore_128 hj0_4 (fun H locs hG hS hq9 hj1699 => ?_)
                have hj1699 : tk_c H bj 4 (upd f970 (1 : Int32).toNatClampNeg v969) := hj1699
                have hj0_0 := hj0_0.kept (hq9 _ (tk_ne ht_a0 ht_bj (Or.inl (by decide))))
                have hj0_1 := hj0_1.kept (hq9 _ (tk_ne ht_a0 ht_bj (Or.inl (by decide))))
                have hj1_0 := hj1_0.kept (hq9 _ (tk_ne ht_ld20 ht_bj (Or.inl (by decide))))
                have hj1_1 := hj1_1.kept (hq9 _ (tk_ne ht_ld20 ht_bj (Or.inl (by decide))))
                have hj1_2 := hj1_2.kept (hq9 _ (tk_ne ht_ld20 ht_bj (Or.inl (by decide))))
                have hj1_3 := hj1_3.kept (hq9 _ (tk_ne ht_ld20 ht_bj (Or.inl (by decide))))
                have hj1_4 := hj1_4.kept (hq9 _ (tk_ne ht_ld70 ht_bj (Or.inl (by decide))))
                have hj1_5 := hj1_5.kept (hq9 _ (tk_ne ht_ld80 ht_bj (Or.inl (by decide))))
                have hj1_6 := hj1_6.kept (hq9 _ (tk_ne ht_ld90 ht_bj (Or.inl (by decide))))
                have hj1_7 := hj1_7.kept (hq9 _ (tk_ne ht_ld100 ht_bj (Or.inl (by decide))))
                have hj1_8 := hj1_8.kept (hq9 _ (tk_ne ht_ld110 ht_bj (Or.inl (by decide))))
                have hj1_9 := hj1_9.kept (hq9 _ (tk_ne ht_ld120 ht_bj (Or.inl (by decide))))
                have hf866 := hf866.kept (hq9 _ (tk_ne ht_a0 ht_bj (Or.inl (by decide))))
                have hf868 := hf868.kept (hq9 _ (tk_ne ht_a0 ht_bj (Or.inl (by decide))))
                have hj871 := hj871.kept (hq9 _ (tk_ne ht_bb ht_bj (Or.inl (by decide))))
                refine lv_iload_n hx hb dX3_joinMore_129 rfl (lv_at hl 5 rfl) ?_
                refine lv_aload_n hx hb dX3_joinMore_130 rfl (lv_at hl 2 rfl) ?_
                refine tk_get (ci := 3) (C := RX3) (T := TX3) (N := 5) (sp := (8, 20, 3, 0)) hx hb htl inX3 hown hK hG ht_a0 (by decide) tk_no rfl 0 (by decide) (htl _ mw_175) (fun _ h9 => h9) rfl dX3_joinMore_131 (fun v9 hf1700 hV9 => ?_)
                obtain ⟨rfl, ht_ld20⟩ := hV9
                have ht_ld20 : t (ld 20) = (3, 0, 0) := ht_ld20
                refine fx_top (v := .ref (ld 20)) rfl ?_
                refine tk_get (ci := 2) (C := RX2) (T := TX2) (N := 20) (sp := (11, 100, 35, 10)) hx hb htl inX2 hown hK hG ht_ld20 (by decide) tk_no rfl 8 (by decide) (htl _ mw_1465) (fun _ h9 => h9) rfl dX3_joinMore_134 (fun v9 hf1701 hV9 => ?_)
                obtain ⟨rfl, ht_ld100⟩ := hV9
                have ht_ld100 : t (ld 100) = (35, 10, 0) := ht_ld100
                refine fx_top (v := .ref (ld 100)) rfl ?_
                refine lv_iload hx hb dX3_joinMore_137 (lv_at hl 1 rfl) ?_
                refine tk_iald hx hb hK hG ht_ld100 (by decide) (fun _ h => h) tk_no rfl (by omega) (by omega) dX3_joinMore_139 (fun v1702 _ hz9 => ?_)
                have hr_v1702 := tk_rng v1702
                have ev_v1702 : v1702 = q1 v969.toNatClampNeg := hj1_7.at hz9 (by have h9 : v969.toNatClampNeg = v969.toInt.toNat := rfl; omega)
                have he_v1702 : 1 ≤ v1702.toInt ∧ v1702.toInt ≤ 99 := by rw [ev_v1702]; exact (hqr v969.toInt.toNat (by omega)).1
                refine lv_iadd hx hb dX3_joinMore_140 ?_
                refine tk_add rfl rfl (by omega) (by omega) (fun v1703 h_v1703 => ?_)
                refine lv_iload hx hb dX3_joinMore_141 (lv_at hl 0 rfl) ?_
                refine lv_if_eq (tgt := 150) hx hb dX3_joinMore_143 (by decide) (fun c9 => absurd c9 (by decide)) (fun _ => ?_)
                refine lv_iconst (v := 3) hx hb dX3_joinMore_146 (by decide) ?_
                refine lv_goto (tgt := 151) hx hb dX3_joinMore_147 (by decide) ?_
                refine lv_iadd hx hb dX3_joinMore_151 ?_
                refine tk_add rfl (show (3 : Int32).toInt = 3 by decide) (by omega) (by omega) (fun v1704 h_v1704 => ?_)
                refine lv_istore (lv' := [(7, .int v1704), (6, .int 1), (5, .int v969), (0, .ref a0), (1, .int 1), (2, .int p2), (3, .int p3), (4, .int p4)]) hx hb dX3_joinMore_152 hl (by decide) rfl (fun ls hl => ?_)
                refine lv_aload_n hx hb dX3_joinMore_154 rfl (lv_at hl 3 rfl) ?_
                refine lv_iload_n hx hb dX3_joinMore_155 rfl (lv_at hl 4 rfl) ?_
                refine lv_iconst (v := 1) hx hb dX3_joinMore_156 (by decide) ?_
                refine lv_iadd hx hb dX3_joinMore_157 ?_
                refine fx_ti (v := 2) (by decide) ?_
                refine lv_iload_n hx hb dX3_joinMore_158 rfl (lv_at hl 5 rfl) ?_
                refine lv_iconst (v := 1) hx hb dX3_joinMore_159 (by decide) ?_
                refine lv_iload hx hb dX3_joinMore_160 (lv_at hl 2 rfl) ?_
                obtain ⟨v1705, hm_v1705⟩ : ∃ z : Int32, (1 : Int32) <<< (v969 &&& 31) = z := ⟨_, rfl⟩
                refine lv_ishl hx hb dX3_joinMore_162 ?_
                refine fx_ti hm_v1705 ?_
                have hq_v1705 := tk_rng v1705
                obtain ⟨v1706, hm_v1706⟩ : ∃ z : Int32, p2 ||| v1705 = z := ⟨_, rfl⟩
                refine lv_ior hx hb dX3_joinMore_163 ?_
                refine fx_ti hm_v1706 ?_
                have hq_v1706 := tk_rng v1706
                refine lv_iload hx hb dX3_joinMore_164 (lv_at hl 0 rfl) ?_
                refine lv_iload hx hb dX3_joinMore_166 (lv_at hl 7 rfl) ?_
                refine lv_aload_n hx hb dX3_joinMore_168 rfl (lv_at hl 3 rfl) ?_
                refine tk_get (ci := 3) (C := RX3) (T := TX3) (N := 5) (sp := (8, 20, 3, 0)) hx hb htl inX3 hown hK hG ht_a0 (by decide) tk_no rfl 0 (by decide) (htl _ mw_175) (fun _ h9 => h9) rfl dX3_joinMore_169 (fun v9 hf1707 hV9 => ?_)
                obtain ⟨rfl, ht_ld20⟩ := hV9
                have ht_ld20 : t (ld 20) = (3, 0, 0) := ht_ld20
                refine fx_top (v := .ref (ld 20)) rfl ?_
                refine tk_get (ci := 2) (C := RX2) (T := TX2) (N := 20) (sp := (11, 120, 37, 10)) hx hb htl inX2 hown hK hG ht_ld20 (by decide) tk_no rfl 10 (by decide) (htl _ mw_1463) (fun _ h9 => h9) rfl dX3_joinMore_172 (fun v9 hf1708 hV9 => ?_)
                obtain ⟨rfl, ht_ld120⟩ := hV9
                have ht_ld120 : t (ld 120) = (37, 10, 0) := ht_ld120
                refine fx_top (v := .ref (ld 120)) rfl ?_
                refine lv_iload hx hb dX3_joinMore_175 (lv_at hl 2 rfl) ?_
                refine tk_iald hx hb hK hG ht_ld120 (by decide) (fun _ h => h) tk_no rfl (by omega) (by omega) dX3_joinMore_177 (fun v1709 _ hz9 => ?_)
                have hr_v1709 := tk_rng v1709
                have ev_v1709 : v1709 = q3 v969.toNatClampNeg := hj1_9.at hz9 (by have h9 : v969.toNatClampNeg = v969.toInt.toNat := rfl; omega)
                have he_v1709 : 1 ≤ v1709.toInt ∧ v1709.toInt ≤ 9 := by rw [ev_v1709]; exact (hqr v969.toInt.toNat (by omega)).2
                have hee_v1709 : v1709.toInt = v1649.toInt := congrArg Int32.toInt (ev_v1709.trans ev_v1649.symm)
                have hle_v1709 : v1709.toInt ≤ p4.toInt := by omega
                refine lv_isub hx hb dX3_joinMore_178 ?_
                refine tk_sub rfl rfl (by omega) (by omega) (fun v1710 h_v1710 => ?_)
                have hk_2 : (2 : Int32).toInt = 2 := by decide
                have hzr_v1654 := mU_at hmu hag (j := 0) (by decide)
                have hzr_v1654 : 0 ≤ v1654.toInt ∧ v1654.toInt < n2.toInt := by rw [ev_v1654]; exact hzr_v1654
                refine tk_Vv (As := [.int 2, .int v1706, .int v1704, .int v1710]) (rest := []) (ci := 3) ⟨hx, hb, hml, hown, hts⟩ hK hG hZ hS (k_X3_joinMore_2_x l D cy ld t a0 v1706 v1704 v1710 LL bj bb v972 v971 (upd f970 (1 : Int32).toNatClampNeg v969) f973 n0 n1 n2 n3 fh fs fk q1 q2 q3 ht_a0 ht_bj ht_bb ht_ld20 ht_ld70 ht_ld80 ht_ld90 ht_ld100 ht_ld110 ht_ld120 (by omega) (by omega) (by omega) (by omega) (by omega) (by omega) (by omega) (by omega) (by omega) (by omega) (by omega) (by omega) (by omega) (by omega) hqr (mU_next hmu hag (by omega) (by omega) (by omega) (by rw [hm_v1643, hm_v1644]; omega) (by rw [hm_v1705, hm_v1706]) ((mq_at (show ((v969.toInt.toNat : Nat) : Int) < n2.toInt by omega)).trans ev_v1702.symm) ((mq_at (show ((v969.toInt.toNat : Nat) : Int) < n2.toInt by omega)).trans ev_v1709.symm) (by decide) (mBon_y (by decide) (by decide) rfl ev_v1654 (by have e7 : mq n2.toInt q2 v969.toInt.toNat = v1658 := (mq_at (by omega)).trans ev_v1658.symm; have e8 : mq n2.toInt q2 v1654.toInt.toNat = v1655 := (mq_at (by omega)).trans ev_v1655.symm; rw [e7, e8]; exact m_eq (by omega))) (by omega) (by omega))) ⟨⟨hj0_0, hj0_1, hf868, hf866, hj1699, hj871⟩, ⟨hj1_0, hj1_1, hj1_2, hj1_3, hj1_4, hj1_5, hj1_6, hj1_7, hj1_8, hj1_9⟩⟩ ⟨callB_of 4 hts (wl_in mw_1460) rfl rfl rfl (htl _ mw_48) (htl _ mw_1457) hd_yX3_joinMore ⟨(Nat.le_of_ble_eq_true rfl), (Nat.le_of_ble_eq_true rfl)⟩, htl _ mw_1458, htl _ mw_1459⟩ ht_a0 (by decide) tk_no rfl (tk_w.pick [0, 1, 2] rfl) rfl hl.1 rfl (Nat.le_of_ble_eq_true rfl) dX3_joinMore_179 ⟨(Nat.le_of_ble_eq_true rfl), (Nat.le_of_ble_eq_true rfl)⟩ (fun H locs hpo hG hS hq9 => ?_)
                have hj1_0 := hj1_0.call hq9 (tk_w.no ht_ld20 (by decide))
                have hj1_1 := hj1_1.call hq9 (tk_w.no ht_ld20 (by decide))
                have hj1_2 := hj1_2.call hq9 (tk_w.no ht_ld20 (by decide))
                have hj1_3 := hj1_3.call hq9 (tk_w.no ht_ld20 (by decide))
                have hj1_4 := hj1_4.call hq9 (tk_w.no ht_ld70 (by decide))
                have hj1_5 := hj1_5.call hq9 (tk_w.no ht_ld80 (by decide))
                have hj1_6 := hj1_6.call hq9 (tk_w.no ht_ld90 (by decide))
                have hj1_7 := hj1_7.call hq9 (tk_w.no ht_ld100 (by decide))
                have hj1_8 := hj1_8.call hq9 (tk_w.no ht_ld110 (by decide))
                have hj1_9 := hj1_9.call hq9 (tk_w.no ht_ld120 (by decide))
                obtain ⟨hraw1712, ⟨hj1713, hj1714, hj1715, hj1716, hj1717, hj1718, hj1719, hj1720, hj1721, hj1722⟩⟩ := hpo
                obtain ⟨v1729, v1730, f1731, f1732, ⟨hM_1723, hM_1724, hM_1725, hM_1726, hM_1727, hM_1728⟩, ⟨hlo_v1729, hhi_v1729⟩, hg1733, hP1734⟩ := hraw1712
                have hq_v1730 := tk_rng v1730
                obtain ⟨v1735, h_v1735, e_v1735⟩ := tk_inc v969 1 (by decide) (by omega) (by omega)
                refine lv_iinc (v := v1735) (lv' := [(5, .int v1735), (7, .int v1704), (6, .int 1), (0, .ref a0), (1, .int 1), (2, .int p2), (3, .int p3), (4, .int p4)]) hx hb dX3_joinMore_182 hl (k := 2) rfl e_v1735 (by decide) rfl (fun ls hl => ?_)
                refine lv_goto (tgt := 45) hx hb dX3_joinMore_185 (by decide) ?_
                exact ih_l1640 v1735 f1731 v1730 v1729 f1732 _ _ (by omega) (by omega) (by omega) (by omega) (by omega) hG hS hM_1723 hM_1724 hM_1727 hj1713 hj1714 hj1715 hj1716 hj1717 hj1718 hj1719 hj1720 hj1721 hj1722 hM_1726 hM_1725 hM_1728 (mI_child (by omega) hmI9 (by omega) (by omega) (by omega) hmu.1 (mU_free hmu (by omega) (by omega) (by rw [hm_v1643, hm_v1644]; omega)) (by have h7 := hmu.2.2.2.1; have e7 : mq n2.toInt q3 v969.toInt.toNat = v1649 := (mq_at (by omega)).trans ev_v1649.symm; rw [e7]; omega) rfl hag (by decide) (by decide) hP1734) ((hg1733.mono (by decide)).trans (hag.pd (by decide))) _ (lv_sub hl [0, 3, 4, 5, 6, 7] rfl)
    have hk_0 : (0 : Int32).toInt = 0 := by decide
    have hk_1 : (1 : Int32).toInt = 1 := by decide
    have hk_0 : (0 : Int32).toInt = 0 := by decide
    exact hl1640 11 0 J p3 1 J _ _ (by omega) (by omega) (by omega) (by omega) (by omega) hG hS hj0_0 hj0_1 hj0_4 hj1_0 hj1_1 hj1_2 hj1_3 hj1_4 hj1_5 hj1_6 hj1_7 hj1_8 hj1_9 hf866 hf868 hj871 (mI_top (by decide) (by decide) hmu.2.2.1 (show bs.toInt < p3.toInt by omega) (by decide) (mAg.refl _ _)) (mAg.refl _ _) _ (lv_sub hl [0, 1, 2, 3, 4, 5] rfl)
