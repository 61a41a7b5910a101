set_option maxHeartbeats 4000000 in
set_option maxRecDepth 100000 in
theorem k_X3_joinMore_0_x (l : Launch) (D : va_G) (cy : Nat → ClassId) (ld : Nat → Nat) (t : tk_T) (a0 : Nat) (p2 : Int32) (p3 : Int32) (p4 : Int32) (LL : Int) (bj bb : Nat) (bl bs : Int32) (J B : Nat → Int32) (n0 n1 n2 n3 : Int32) (fh fs fk q1 q2 q3 : Nat → Int32) (ht_a0 : t a0 = (4, 0, 0)) (ht_bj : t bj = (22, 4, 0)) (ht_bb : t bb = (20, 4, 0)) (ht_ld20 : t (ld 20) = (3, 0, 0)) (ht_ld70 : t (ld 70) = (32, 8, 0)) (ht_ld80 : t (ld 80) = (33, 10, 0)) (ht_ld90 : t (ld 90) = (34, 10, 0)) (ht_ld100 : t (ld 100) = (35, 10, 0)) (ht_ld110 : t (ld 110) = (36, 10, 0)) (ht_ld120 : t (ld 120) = (37, 10, 0)) (hp_0 : 0 ≤ p3.toInt) (hp_1 : p3.toInt ≤ 0) (hp_2 : 0 ≤ p4.toInt) (hp_3 : p4.toInt ≤ 36) (hp_4 : 0 ≤ bl.toInt) (hp_5 : bl.toInt ≤ 4) (hp_6 : 0 ≤ n0.toInt) (hp_7 : n0.toInt ≤ 8) (hp_8 : 0 ≤ n1.toInt) (hp_9 : n1.toInt ≤ 10) (hp_10 : 0 ≤ n2.toInt) (hp_11 : n2.toInt ≤ 10) (hp_12 : 0 ≤ n3.toInt) (hp_13 : n3.toInt ≤ 8) (hqr : ∀ j : Nat, (j : Int) < n2.toInt → (1 ≤ (q1 j).toInt ∧ (q1 j).toInt ≤ 99) ∧ 1 ≤ (q3 j).toInt ∧ (q3 j).toInt ≤ 9) (hmu : mU n2.toInt LL (mq n2.toInt q1) (mq n2.toInt q2) (mq n2.toInt q3) 0 J p2 p3 p4) : Met l yX3_joinMore (wl yX3_joinMore cX3_joinMore 8 none) ({ frames := 8, cells := 0, slots := 0, locals := 490 }) (tp D cy ld t [] [.ref a0, .int 0, .int p2, .int p3, .int p4] (fun H => jM D a0 bj bb bl bs J B H ∧ jC D ld (ld 20) 0 n0 n1 n2 n3 fh fs fk q1 q2 q3 H)) (tv D cy ld t [] (fun H => (∃ (bl9 bs9 : Int32) (J9 B9 : Nat → Int32), jM D a0 bj bb bl9 bs9 J9 B9 H ∧ (0 ≤ bl9.toInt ∧ bl9.toInt ≤ 4) ∧ mAg 0 J9 J ∧ mP n2.toInt LL (mq n2.toInt q1) (mq n2.toInt q2) (mq n2.toInt q3) 0 J (bs.toInt, bl.toInt, B) (bs9.toInt, bl9.toInt, B9)) ∧ jC D ld (ld 20) 0 n0 n1 n2 n3 fh fs fk q1 q2 q3 H) (tk_w t [(22, 0, 0), (4, 0, 0), (20, 0, 0)])) 0 0 (tk_w t [(22, 0, 0), (4, 0, 0), (20, 0, 0)]) := by
  refine tk_met (y := yX3_joinMore) (cc := cX3_joinMore) (maxL := 8) (ret := none) (av := [.ref a0, .int 0, .int p2, .int p3, .int p4]) _ _ (by decide) (Nat.le_of_ble_eq_true rfl) ?_
  intro p e s m args below meth c hx hb hr hml hts htl hown hlocks hK H locs hH hG hS hB hZ ls hl
  have hown : s.vm.findClass RX3 = some m.cls := hown
  have hl : lv_has ls 8 [(0, .ref a0), (1, .int 0), (2, .int p2), (3, .int p3), (4, .int p4)] := hl
  obtain ⟨⟨hj0_0, hj0_1, hj0_2, hj0_3, hj0_4, hj0_5⟩, ⟨hj1_0, hj1_1, hj1_2, hj1_3, hj1_4, hj1_5, hj1_6, hj1_7, hj1_8, hj1_9⟩⟩ := hB
  have hr_p2 := tk_rng p2
  have hr_p3 := tk_rng p3
  have hr_p4 := tk_rng p4
  refine lv_iload_n hx hb dX3_joinMore_0 rfl (lv_at hl 1 rfl) ?_
  refine lv_if_le (tgt := 36) hx hb dX3_joinMore_1 (by decide) (fun _ => ?_) (fun c9 => absurd (by decide) c9)
  refine lv_iload_n hx hb dX3_joinMore_36 rfl (lv_at hl 1 rfl) ?_
  refine lv_iconst (v := 4) hx hb dX3_joinMore_37 (by decide) ?_
  refine lv_icmp_lt (tgt := 42) hx hb dX3_joinMore_38 (by decide) (fun _ => ?_) (fun c9 => absurd (by decide) c9)
  refine lv_iconst (v := 0) hx hb dX3_joinMore_42 (by decide) ?_
  refine lv_istore (lv' := [(5, .int 0), (0, .ref a0), (1, .int 0), (2, .int p2), (3, .int p3), (4, .int p4)]) hx hb dX3_joinMore_43 hl (by decide) rfl (fun ls hl => ?_)
  have hl401 : ∀ (N_l401 : Nat) (v52 : Int32) (v53 : Int32) (v54 : Int32) (f55 : Nat → Int32) (f56 : Nat → Int32) (H : Heap) (locs : List Loc), v52.toInt ≤ 10 → 0 ≤ (-1) * p3.toInt + v52.toInt → 0 ≤ v53.toInt → v53.toInt ≤ 4 → (-1) * v52.toInt + 10 < (N_l401 : Int) → tk_G D cy ld t [] H → va_S (tk_w t [(22, 0, 0), (4, 0, 0), (20, 0, 0)]) s.heap H locs → tk_f D H a0 3 1 (.ref bj) → tk_f D H a0 3 2 (.ref bb) → tk_f D H a0 3 3 (.int v53) → tk_f D H a0 3 4 (.int v54) → tk_c H bj 4 f55 → tk_c H bb 4 f56 → tk_f D H (ld 20) 2 0 (.int n0) → tk_f D H (ld 20) 2 4 (.int n1) → tk_f D H (ld 20) 2 7 (.int n2) → tk_f D H (ld 20) 2 11 (.int n3) → tk_c H (ld 70) 8 fh → tk_c H (ld 80) 10 fs → tk_c H (ld 90) 10 fk → tk_c H (ld 100) 10 q1 → tk_c H (ld 110) 10 q2 → tk_c H (ld 120) 10 q3 → mI n2.toInt LL (mq n2.toInt q1) (mq n2.toInt q2) (mq n2.toInt q3) 0 J (bs.toInt, bl.toInt, B) v52.toInt (v54.toInt, v53.toInt, f56) → mAg 0 f55 J → ∀ ls : Array Slot, lv_has ls 8 [(5, .int v52), (0, .ref a0), (1, .int 0), (2, .int p2), (3, .int p3), (4, .int p4)] → W p l e ({ frames := 8, cells := 0, slots := 0, locals := 490 }) s m args below meth c H locs 0 0 (MQ below (tv D cy ld t [] (fun H => (∃ (bl9 bs9 : Int32) (J9 B9 : Nat → Int32), jM D a0 bj bb bl9 bs9 J9 B9 H ∧ (0 ≤ bl9.toInt ∧ bl9.toInt ≤ 4) ∧ mAg 0 J9 J ∧ mP n2.toInt LL (mq n2.toInt q1) (mq n2.toInt q2) (mq n2.toInt q3) 0 J (bs.toInt, bl.toInt, B) (bs9.toInt, bl9.toInt, B9)) ∧ jC D ld (ld 20) 0 n0 n1 n2 n3 fh fs fk q1 q2 q3 H) (tk_w t [(22, 0, 0), (4, 0, 0), (20, 0, 0)])) args s 0 0 (tk_w t [(22, 0, 0), (4, 0, 0), (20, 0, 0)])) (F0 m 45 ls []) := by
    intro N_l401
    induction N_l401 with
    | zero => intro v52 v53 v54 f55 f56 H locs hq0_l401 hq1_l401 hq2_l401 hq3_l401 hm_l401 hG hS hj0_0 hj0_1 hj0_2 hj0_3 hj0_4 hj0_5 hj1_0 hj1_1 hj1_2 hj1_3 hj1_4 hj1_5 hj1_6 hj1_7 hj1_8 hj1_9 hmI9 hag ls hl; exfalso; omega
    | succ N_l401 ih_l401 =>
      intro v52 v53 v54 f55 f56 H locs hq0_l401 hq1_l401 hq2_l401 hq3_l401 hm_l401 hG hS hj0_0 hj0_1 hj0_2 hj0_3 hj0_4 hj0_5 hj1_0 hj1_1 hj1_2 hj1_3 hj1_4 hj1_5 hj1_6 hj1_7 hj1_8 hj1_9 hmI9 hag ls hl
      refine lv_iload hx hb dX3_joinMore_45 (lv_at hl 0 rfl) ?_
      refine lv_aload_n hx hb dX3_joinMore_47 rfl (lv_at hl 1 rfl) ?_
      refine tk_get (ci := 3) (C := RX3) (T := TX3) (N := 5) (sp := (8, 20, 3, 0)) hx hb htl inX3 hown hK hG ht_a0 (by decide) tk_no rfl 0 (by decide) (htl _ mw_175) (fun _ h9 => h9) rfl dX3_joinMore_48 (fun v9 hf402 hV9 => ?_)
      obtain ⟨rfl, ht_ld20⟩ := hV9
      have ht_ld20 : t (ld 20) = (3, 0, 0) := ht_ld20
      refine fx_top (v := .ref (ld 20)) rfl ?_
      refine tk_getk (ci := 2) (C := RX2) (T := TX2) (N := 20) (sp := (0, 0, 10, 0)) hx hb htl inX2 hown hK hG ht_ld20 (by decide) tk_no rfl 7 (by decide) (htl _ mw_1462) (fun _ h9 => h9) rfl hj1_2 dX3_joinMore_51 ?_
      refine lv_icmp_ge (tgt := 188) hx hb dX3_joinMore_54 (by decide) (fun c9 => ?_) (fun c9 => ?_)
      · have hc403 : n2.toInt ≤ v52.toInt := (fi_le rfl rfl).mp c9
        exact tk_vret hx hb hr hlocks (show (∃ (bl9 bs9 : Int32) (J9 B9 : Nat → Int32), jM D a0 bj bb bl9 bs9 J9 B9 H ∧ (0 ≤ bl9.toInt ∧ bl9.toInt ≤ 4) ∧ mAg 0 J9 J ∧ mP n2.toInt LL (mq n2.toInt q1) (mq n2.toInt q2) (mq n2.toInt q3) 0 J (bs.toInt, bl.toInt, B) (bs9.toInt, bl9.toInt, B9)) ∧ jC D ld (ld 20) 0 n0 n1 n2 n3 fh fs fk q1 q2 q3 H from ⟨⟨v53, v54, f55, f56, ⟨hj0_0, hj0_1, hj0_2, hj0_3, hj0_4, hj0_5⟩, ⟨by omega, by omega⟩, hag, (mI_end hmI9 (by omega) (by omega) (by omega))⟩, ⟨hj1_0, hj1_1, hj1_2, hj1_3, hj1_4, hj1_5, hj1_6, hj1_7, hj1_8, hj1_9⟩⟩) hG hS dX3_joinMore_188
      · have hc403 : ¬ (n2.toInt ≤ v52.toInt) := fun h9 => c9 ((fi_le rfl rfl).mpr h9)
        refine lv_iload_n hx hb dX3_joinMore_57 rfl (lv_at hl 3 rfl) ?_
        refine lv_iload hx hb dX3_joinMore_58 (lv_at hl 0 rfl) ?_
        obtain ⟨v404, hm_v404⟩ : ∃ z : Int32, p2 >>> (v52 &&& 31) = z := ⟨_, rfl⟩
        refine lv_ishr hx hb dX3_joinMore_60 ?_
        refine fx_ti hm_v404 ?_
        have hq_v404 := tk_rng v404
        refine lv_iconst (v := 1) hx hb dX3_joinMore_61 (by decide) ?_
        obtain ⟨v405, hm_v405⟩ : ∃ z : Int32, v404 &&& (1 : Int32) = z := ⟨_, rfl⟩
        refine lv_iand hx hb dX3_joinMore_62 ?_
        refine fx_ti hm_v405 ?_
        have h_v405 : 0 ≤ v405.toInt ∧ v405.toInt ≤ 1 := hm_v405 ▸ tk_and v404 1 (by decide) (by decide)
        refine lv_if_ne (tgt := 182) hx hb dX3_joinMore_63 (by decide) (fun c9 => ?_) (fun c9 => ?_)
        · have hc406 : ¬ (v405.toInt = 0) := fun h9 => c9 ((fi_eq rfl (show (0 : Int32).toInt = 0 by decide)).mpr h9)
          obtain ⟨v407, h_v407, e_v407⟩ := tk_inc v52 1 (by decide) (by omega) (by omega)
          refine lv_iinc (v := v407) (lv' := [(5, .int v407), (0, .ref a0), (1, .int 0), (2, .int p2), (3, .int p3), (4, .int p4)]) hx hb dX3_joinMore_182 hl (k := 0) rfl e_v407 (by decide) rfl (fun ls hl => ?_)
          refine lv_goto (tgt := 45) hx hb dX3_joinMore_185 (by decide) ?_
          exact ih_l401 v407 v53 v54 f55 f56 _ _ (by omega) (by omega) (by omega) (by omega) (by omega) hG hS hj0_0 hj0_1 hj0_2 hj0_3 hj0_4 hj0_5 hj1_0 hj1_1 hj1_2 hj1_3 hj1_4 hj1_5 hj1_6 hj1_7 hj1_8 hj1_9 (mI_skip (by omega) hmI9 (by omega) (by omega) (by omega) (Or.inl (mU_used hmu (by omega) (by omega) (by rw [hm_v404, hm_v405]; omega)))) hag _ (lv_sub hl [0, 1, 2, 3, 4, 5] rfl)
        · have hc406 : v405.toInt = 0 := (fi_eq rfl (show (0 : Int32).toInt = 0 by decide)).mp c9
          refine lv_aload_n hx hb dX3_joinMore_66 rfl (lv_at hl 1 rfl) ?_
          refine tk_get (ci := 3) (C := RX3) (T := TX3) (N := 5) (sp := (8, 20, 3, 0)) hx hb htl inX3 hown hK hG ht_a0 (by decide) tk_no rfl 0 (by decide) (htl _ mw_175) (fun _ h9 => h9) rfl dX3_joinMore_67 (fun v9 hf408 hV9 => ?_)
          obtain ⟨rfl, ht_ld20⟩ := hV9
          have ht_ld20 : t (ld 20) = (3, 0, 0) := ht_ld20
          refine fx_top (v := .ref (ld 20)) rfl ?_
          refine tk_get (ci := 2) (C := RX2) (T := TX2) (N := 20) (sp := (11, 120, 37, 10)) hx hb htl inX2 hown hK hG ht_ld20 (by decide) tk_no rfl 10 (by decide) (htl _ mw_1463) (fun _ h9 => h9) rfl dX3_joinMore_70 (fun v9 hf409 hV9 => ?_)
          obtain ⟨rfl, ht_ld120⟩ := hV9
          have ht_ld120 : t (ld 120) = (37, 10, 0) := ht_ld120
          refine fx_top (v := .ref (ld 120)) rfl ?_
          refine lv_iload hx hb dX3_joinMore_73 (lv_at hl 0 rfl) ?_
          refine tk_iald hx hb hK hG ht_ld120 (by decide) (fun _ h => h) tk_no rfl (by omega) (by omega) dX3_joinMore_75 (fun v410 _ hz9 => ?_)
          have hr_v410 := tk_rng v410
          have ev_v410 : v410 = q3 v52.toNatClampNeg := hj1_9.at hz9 (by have h9 : v52.toNatClampNeg = v52.toInt.toNat := rfl; omega)
          have he_v410 : 1 ≤ v410.toInt ∧ v410.toInt ≤ 9 := by rw [ev_v410]; exact (hqr v52.toInt.toNat (by omega)).2
          refine lv_iload hx hb dX3_joinMore_76 (lv_at hl 5 rfl) ?_
          refine lv_icmp_gt (tgt := 182) hx hb dX3_joinMore_78 (by decide) (fun c9 => ?_) (fun c9 => ?_)
          · have hc411 : p4.toInt < v410.toInt := (fi_lt rfl rfl).mp c9
            obtain ⟨v412, h_v412, e_v412⟩ := tk_inc v52 1 (by decide) (by omega) (by omega)
            refine lv_iinc (v := v412) (lv' := [(5, .int v412), (0, .ref a0), (1, .int 0), (2, .int p2), (3, .int p3), (4, .int p4)]) hx hb dX3_joinMore_182 hl (k := 0) rfl e_v412 (by decide) rfl (fun ls hl => ?_)
            refine lv_goto (tgt := 45) hx hb dX3_joinMore_185 (by decide) ?_
            exact ih_l401 v412 v53 v54 f55 f56 _ _ (by omega) (by omega) (by omega) (by omega) (by omega) hG hS hj0_0 hj0_1 hj0_2 hj0_3 hj0_4 hj0_5 hj1_0 hj1_1 hj1_2 hj1_3 hj1_4 hj1_5 hj1_6 hj1_7 hj1_8 hj1_9 (mI_skip (by omega) hmI9 (by omega) (by omega) (by omega) (Or.inr (by have h7 := hmu.2.2.2.1; have e7 : mq n2.toInt q3 v52.toInt.toNat = v410 := (mq_at (by omega)).trans ev_v410.symm; rw [e7]; omega))) hag _ (lv_sub hl [0, 1, 2, 3, 4, 5] rfl)
          · have hc411 : ¬ (p4.toInt < v410.toInt) := fun h9 => c9 ((fi_lt rfl rfl).mpr h9)
            refine lv_iload_n hx hb dX3_joinMore_81 rfl (lv_at hl 2 rfl) ?_
            refine lv_if_le (tgt := 118) hx hb dX3_joinMore_82 (by decide) (fun _ => ?_) (fun c9 => absurd (by decide) c9)
            refine lv_iconst (v := 0) hx hb dX3_joinMore_118 (by decide) ?_
            refine lv_istore (lv' := [(6, .int 0), (5, .int v52), (0, .ref a0), (1, .int 0), (2, .int p2), (3, .int p3), (4, .int p4)]) hx hb dX3_joinMore_119 hl (by decide) rfl (fun ls hl => ?_)
            refine lv_aload_n hx hb dX3_joinMore_121 rfl (lv_at hl 2 rfl) ?_
            refine tk_getk (ci := 3) (C := RX3) (T := TX3) (N := 5) (sp := (6, 22, 4, 0)) hx hb htl inX3 hown hK hG ht_a0 (by decide) tk_no rfl 1 (by decide) (htl _ mw_173) (fun _ h9 => h9) rfl hj0_0 dX3_joinMore_122 ?_
            refine lv_iload_n hx hb dX3_joinMore_125 rfl (lv_at hl 3 rfl) ?_
            refine lv_iload hx hb dX3_joinMore_126 (lv_at hl 1 rfl) ?_
            refine tk_iastC hx hb hK hG hS ht_bj (by decide) (fun _ => Iff.rfl) tk_no (I := 0) (by decide) (by decide) (by decide) (show 0 ≤ (v52 : Int32).toInt ∧ (v52 : Int32).toInt ≤ 9 from ⟨by omega, by omega⟩) (tk_w.of ht_bj (by decide) (List.mem_of_getElem? (i := 0) rfl) (Nat.le_refl _) (Nat.le_refl _)) dX3_joinMore_128 hj0_4 (fun H locs hG hS hq9 hj414 => ?_)
            have hj414 : tk_c H bj 4 (upd f55 (0 : Int32).toNatClampNeg v52) := hj414
            have hj0_0 := hj0_0.kept (hq9 _ (tk_ne ht_a0 ht_bj (Or.inl (by decide))))
            have hj0_1 := hj0_1.kept (hq9 _ (tk_ne ht_a0 ht_bj (Or.inl (by decide))))
            have hj0_2 := hj0_2.kept (hq9 _ (tk_ne ht_a0 ht_bj (Or.inl (by decide))))
            have hj0_3 := hj0_3.kept (hq9 _ (tk_ne ht_a0 ht_bj (Or.inl (by decide))))
            have hj0_5 := hj0_5.kept (hq9 _ (tk_ne ht_bb ht_bj (Or.inl (by decide))))
            have hj1_0 := hj1_0.kept (hq9 _ (tk_ne ht_ld20 ht_bj (Or.inl (by decide))))
            have hj1_1 := hj1_1.kept (hq9 _ (tk_ne ht_ld20 ht_bj (Or.inl (by decide))))
            have hj1_2 := hj1_2.kept (hq9 _ (tk_ne ht_ld20 ht_bj (Or.inl (by decide))))
            have hj1_3 := hj1_3.kept (hq9 _ (tk_ne ht_ld20 ht_bj (Or.inl (by decide))))
            have hj1_4 := hj1_4.kept (hq9 _ (tk_ne ht_ld70 ht_bj (Or.inl (by decide))))
            have hj1_5 := hj1_5.kept (hq9 _ (tk_ne ht_ld80 ht_bj (Or.inl (by decide))))
            have hj1_6 := hj1_6.kept (hq9 _ (tk_ne ht_ld90 ht_bj (Or.inl (by decide))))
            have hj1_7 := hj1_7.kept (hq9 _ (tk_ne ht_ld100 ht_bj (Or.inl (by decide))))
            have hj1_8 := hj1_8.kept (hq9 _ (tk_ne ht_ld110 ht_bj (Or.inl (by decide))))
            have hj1_9 := hj1_9.kept (hq9 _ (tk_ne ht_ld120 ht_bj (Or.inl (by decide))))
            refine lv_iload_n hx hb dX3_joinMore_129 rfl (lv_at hl 5 rfl) ?_
            refine lv_aload_n hx hb dX3_joinMore_130 rfl (lv_at hl 2 rfl) ?_
            refine tk_get (ci := 3) (C := RX3) (T := TX3) (N := 5) (sp := (8, 20, 3, 0)) hx hb htl inX3 hown hK hG ht_a0 (by decide) tk_no rfl 0 (by decide) (htl _ mw_175) (fun _ h9 => h9) rfl dX3_joinMore_131 (fun v9 hf415 hV9 => ?_)
            obtain ⟨rfl, ht_ld20⟩ := hV9
            have ht_ld20 : t (ld 20) = (3, 0, 0) := ht_ld20
            refine fx_top (v := .ref (ld 20)) rfl ?_
            refine tk_get (ci := 2) (C := RX2) (T := TX2) (N := 20) (sp := (11, 100, 35, 10)) hx hb htl inX2 hown hK hG ht_ld20 (by decide) tk_no rfl 8 (by decide) (htl _ mw_1465) (fun _ h9 => h9) rfl dX3_joinMore_134 (fun v9 hf416 hV9 => ?_)
            obtain ⟨rfl, ht_ld100⟩ := hV9
            have ht_ld100 : t (ld 100) = (35, 10, 0) := ht_ld100
            refine fx_top (v := .ref (ld 100)) rfl ?_
            refine lv_iload hx hb dX3_joinMore_137 (lv_at hl 1 rfl) ?_
            refine tk_iald hx hb hK hG ht_ld100 (by decide) (fun _ h => h) tk_no rfl (by omega) (by omega) dX3_joinMore_139 (fun v417 _ hz9 => ?_)
            have hr_v417 := tk_rng v417
            have ev_v417 : v417 = q1 v52.toNatClampNeg := hj1_7.at hz9 (by have h9 : v52.toNatClampNeg = v52.toInt.toNat := rfl; omega)
            have he_v417 : 1 ≤ v417.toInt ∧ v417.toInt ≤ 99 := by rw [ev_v417]; exact (hqr v52.toInt.toNat (by omega)).1
            refine lv_iadd hx hb dX3_joinMore_140 ?_
            refine tk_add rfl rfl (by omega) (by omega) (fun v418 h_v418 => ?_)
            refine lv_iload hx hb dX3_joinMore_141 (lv_at hl 0 rfl) ?_
            refine lv_if_eq (tgt := 150) hx hb dX3_joinMore_143 (by decide) (fun _ => ?_) (fun c9 => absurd (by decide) c9)
            refine lv_iconst (v := 0) hx hb dX3_joinMore_150 (by decide) ?_
            refine lv_iadd hx hb dX3_joinMore_151 ?_
            refine tk_add rfl (show (0 : Int32).toInt = 0 by decide) (by omega) (by omega) (fun v419 h_v419 => ?_)
            refine lv_istore (lv' := [(7, .int v419), (6, .int 0), (5, .int v52), (0, .ref a0), (1, .int 0), (2, .int p2), (3, .int p3), (4, .int p4)]) hx hb dX3_joinMore_152 hl (by decide) rfl (fun ls hl => ?_)
            refine lv_aload_n hx hb dX3_joinMore_154 rfl (lv_at hl 3 rfl) ?_
            refine lv_iload_n hx hb dX3_joinMore_155 rfl (lv_at hl 4 rfl) ?_
            refine lv_iconst (v := 1) hx hb dX3_joinMore_156 (by decide) ?_
            refine lv_iadd hx hb dX3_joinMore_157 ?_
            refine fx_ti (v := 1) (by decide) ?_
            refine lv_iload_n hx hb dX3_joinMore_158 rfl (lv_at hl 5 rfl) ?_
            refine lv_iconst (v := 1) hx hb dX3_joinMore_159 (by decide) ?_
            refine lv_iload hx hb dX3_joinMore_160 (lv_at hl 2 rfl) ?_
            obtain ⟨v420, hm_v420⟩ : ∃ z : Int32, (1 : Int32) <<< (v52 &&& 31) = z := ⟨_, rfl⟩
            refine lv_ishl hx hb dX3_joinMore_162 ?_
            refine fx_ti hm_v420 ?_
            have hq_v420 := tk_rng v420
            obtain ⟨v421, hm_v421⟩ : ∃ z : Int32, p2 ||| v420 = z := ⟨_, rfl⟩
            refine lv_ior hx hb dX3_joinMore_163 ?_
            refine fx_ti hm_v421 ?_
            have hq_v421 := tk_rng v421
            refine lv_iload hx hb dX3_joinMore_164 (lv_at hl 0 rfl) ?_
            refine lv_iload hx hb dX3_joinMore_166 (lv_at hl 7 rfl) ?_
            refine lv_aload_n hx hb dX3_joinMore_168 rfl (lv_at hl 3 rfl) ?_
            refine tk_get (ci := 3) (C := RX3) (T := TX3) (N := 5) (sp := (8, 20, 3, 0)) hx hb htl inX3 hown hK hG ht_a0 (by decide) tk_no rfl 0 (by decide) (htl _ mw_175) (fun _ h9 => h9) rfl dX3_joinMore_169 (fun v9 hf422 hV9 => ?_)
            obtain ⟨rfl, ht_ld20⟩ := hV9
            have ht_ld20 : t (ld 20) = (3, 0, 0) := ht_ld20
            refine fx_top (v := .ref (ld 20)) rfl ?_
            refine tk_get (ci := 2) (C := RX2) (T := TX2) (N := 20) (sp := (11, 120, 37, 10)) hx hb htl inX2 hown hK hG ht_ld20 (by decide) tk_no rfl 10 (by decide) (htl _ mw_1463) (fun _ h9 => h9) rfl dX3_joinMore_172 (fun v9 hf423 hV9 => ?_)
            obtain ⟨rfl, ht_ld120⟩ := hV9
            have ht_ld120 : t (ld 120) = (37, 10, 0) := ht_ld120
            refine fx_top (v := .ref (ld 120)) rfl ?_
            refine lv_iload hx hb dX3_joinMore_175 (lv_at hl 2 rfl) ?_
            refine tk_iald hx hb hK hG ht_ld120 (by decide) (fun _ h => h) tk_no rfl (by omega) (by omega) dX3_joinMore_177 (fun v424 _ hz9 => ?_)
            have hr_v424 := tk_rng v424
            have ev_v424 : v424 = q3 v52.toNatClampNeg := hj1_9.at hz9 (by have h9 : v52.toNatClampNeg = v52.toInt.toNat := rfl; omega)
            have he_v424 : 1 ≤ v424.toInt ∧ v424.toInt ≤ 9 := by rw [ev_v424]; exact (hqr v52.toInt.toNat (by omega)).2
            have hee_v424 : v424.toInt = v410.toInt := congrArg Int32.toInt (ev_v424.trans ev_v410.symm)
            have hle_v424 : v424.toInt ≤ p4.toInt := by omega
            refine lv_isub hx hb dX3_joinMore_178 ?_
            refine tk_sub rfl rfl (by omega) (by omega) (fun v425 h_v425 => ?_)
            have hk_1 : (1 : Int32).toInt = 1 := by decide
            refine tk_Vv (As := [.int 1, .int v421, .int v419, .int v425]) (rest := []) (ci := 3) ⟨hx, hb, hml, hown, hts⟩ hK hG hZ hS (k_X3_joinMore_1_x l D cy ld t a0 v421 v419 v425 LL bj bb v53 v54 (upd f55 (0 : Int32).toNatClampNeg v52) f56 n0 n1 n2 n3 fh fs fk q1 q2 q3 ht_a0 ht_bj ht_bb ht_ld20 ht_ld70 ht_ld80 ht_ld90 ht_ld100 ht_ld110 ht_ld120 (by omega) (by omega) (by omega) (by omega) (by omega) (by omega) (by omega) (by omega) (by omega) (by omega) (by omega) (by omega) (by omega) (by omega) hqr (mU_next hmu hag (by omega) (by omega) (by omega) (by rw [hm_v404, hm_v405]; omega) (by rw [hm_v420, hm_v421]) ((mq_at (show ((v52.toInt.toNat : Nat) : Int) < n2.toInt by omega)).trans ev_v417.symm) ((mq_at (show ((v52.toInt.toNat : Nat) : Int) < n2.toInt by omega)).trans ev_v424.symm) (by decide) (mBon_0 rfl) (by omega) (by omega))) ⟨⟨hj0_0, hj0_1, hj0_2, hj0_3, hj414, hj0_5⟩, ⟨hj1_0, hj1_1, hj1_2, hj1_3, hj1_4, hj1_5, hj1_6, hj1_7, hj1_8, hj1_9⟩⟩ ⟨callB_of 4 hts (wl_in mw_1460) rfl rfl rfl (htl _ mw_48) (htl _ mw_1457) hd_yX3_joinMore ⟨(Nat.le_of_ble_eq_true rfl), (Nat.le_of_ble_eq_true rfl)⟩, htl _ mw_1458, htl _ mw_1459⟩ ht_a0 (by decide) tk_no rfl (tk_w.pick [0, 1, 2] rfl) rfl hl.1 rfl (Nat.le_of_ble_eq_true rfl) dX3_joinMore_179 ⟨(Nat.le_of_ble_eq_true rfl), (Nat.le_of_ble_eq_true rfl)⟩ (fun H locs hpo hG hS hq9 => ?_)
            have hj1_0 := hj1_0.call hq9 (tk_w.no ht_ld20 (by decide))
            have hj1_1 := hj1_1.call hq9 (tk_w.no ht_ld20 (by decide))
            have hj1_2 := hj1_2.call hq9 (tk_w.no ht_ld20 (by decide))
            have hj1_3 := hj1_3.call hq9 (tk_w.no ht_ld20 (by decide))
            have hj1_4 := hj1_4.call hq9 (tk_w.no ht_ld70 (by decide))
            have hj1_5 := hj1_5.call hq9 (tk_w.no ht_ld80 (by decide))
            have hj1_6 := hj1_6.call hq9 (tk_w.no ht_ld90 (by decide))
            have hj1_7 := hj1_7.call hq9 (tk_w.no ht_ld100 (by decide))
            have hj1_8 := hj1_8.call hq9 (tk_w.no ht_ld110 (by decide))
            have hj1_9 := hj1_9.call hq9 (tk_w.no ht_ld120 (by decide))
            obtain ⟨hraw427, ⟨hj428, hj429, hj430, hj431, hj432, hj433, hj434, hj435, hj436, hj437⟩⟩ := hpo
            obtain ⟨v444, v445, f446, f447, ⟨hM_438, hM_439, hM_440, hM_441, hM_442, hM_443⟩, ⟨hlo_v444, hhi_v444⟩, hg448, hP449⟩ := hraw427
            have hq_v445 := tk_rng v445
            obtain ⟨v450, h_v450, e_v450⟩ := tk_inc v52 1 (by decide) (by omega) (by omega)
            refine lv_iinc (v := v450) (lv' := [(5, .int v450), (7, .int v419), (6, .int 0), (0, .ref a0), (1, .int 0), (2, .int p2), (3, .int p3), (4, .int p4)]) hx hb dX3_joinMore_182 hl (k := 2) rfl e_v450 (by decide) rfl (fun ls hl => ?_)
            refine lv_goto (tgt := 45) hx hb dX3_joinMore_185 (by decide) ?_
            exact ih_l401 v450 v444 v445 f446 f447 _ _ (by omega) (by omega) (by omega) (by omega) (by omega) hG hS hM_438 hM_439 hM_440 hM_441 hM_442 hM_443 hj428 hj429 hj430 hj431 hj432 hj433 hj434 hj435 hj436 hj437 (mI_child (by omega) hmI9 (by omega) (by omega) (by omega) hmu.1 (mU_free hmu (by omega) (by omega) (by rw [hm_v404, hm_v405]; omega)) (by have h7 := hmu.2.2.2.1; have e7 : mq n2.toInt q3 v52.toInt.toNat = v410 := (mq_at (by omega)).trans ev_v410.symm; rw [e7]; omega) rfl hag (by decide) (by decide) hP449) ((hg448.mono (by decide)).trans (hag.pd (by decide))) _ (lv_sub hl [0, 3, 4, 5, 6, 7] rfl)
  have hk_0 : (0 : Int32).toInt = 0 := by decide
  have hk_0 : (0 : Int32).toInt = 0 := by decide
  exact hl401 11 0 bl bs J B _ _ (by omega) (by omega) (by omega) (by omega) (by omega) hG hS hj0_0 hj0_1 hj0_2 hj0_3 hj0_4 hj0_5 hj1_0 hj1_1 hj1_2 hj1_3 hj1_4 hj1_5 hj1_6 hj1_7 hj1_8 hj1_9 (mI_nt (by decide) (Or.inl rfl)) (mAg.refl _ _) _ (lv_sub hl [0, 1, 2, 3, 4, 5] rfl)
set_option maxHeartbeats 4000000 in
set_option maxRecDepth 100000 in
theorem k_X3_strongest_x (l : Launch) (D : va_G) (cy : Nat → ClassId) (ld : Nat → Nat) (t : tk_T) (a0 : Nat) (p1 : Int32) (p2 : Int32) (n0 n1 n2 n3 : Int32) (fh fs fk q1 q2 q3 : Nat → Int32) (ht_a0 : t a0 = (4, 0, 0)) (ht_ld20 : t (ld 20) = (3, 0, 0)) (ht_ld70 : t (ld 70) = (32, 8, 0)) (ht_ld80 : t (ld 80) = (33, 10, 0)) (ht_ld90 : t (ld 90) = (34, 10, 0)) (ht_ld100 : t (ld 100) = (35, 10, 0)) (ht_ld110 : t (ld 110) = (36, 10, 0)) (ht_ld120 : t (ld 120) = (37, 10, 0)) (hp_0 : 1 ≤ p1.toInt) (hp_1 : p1.toInt ≤ 36) (hp_2 : 0 ≤ n0.toInt) (hp_3 : n0.toInt ≤ 8) (hp_4 : 0 ≤ n1.toInt) (hp_5 : n1.toInt ≤ 10) (hp_6 : 0 ≤ n2.toInt) (hp_7 : n2.toInt ≤ 10) (hp_8 : 0 ≤ n3.toInt) (hp_9 : n3.toInt ≤ 8) (hqr : ∀ j : Nat, (j : Int) < n2.toInt → (1 ≤ (q1 j).toInt ∧ (q1 j).toInt ≤ 99) ∧ 1 ≤ (q3 j).toInt ∧ (q3 j).toInt ≤ 9) : Met l yX3_strongest (wl yX3_strongest cX3_strongest 3 (some .int)) ({ frames := 9, cells := 0, slots := 0, locals := 560 }) (tp D cy ld t [] [.ref a0, .int p1, .int p2] (fun H => jC D ld (ld 20) 0 n0 n1 n2 n3 fh fs fk q1 q2 q3 H)) (ti D cy ld t [] (fun r H => (4 ≤ p2.toInt → r.toInt + 1 = 0) ∧ (p2.toInt ≤ (-2) → r.toInt + 1 = 0) ∧ mEnd n2.toInt p1.toInt (mq n2.toInt q1) (mq n2.toInt q2) (mq n2.toInt q3) p2.toInt r.toInt ∧ jC D ld (ld 20) 0 n0 n1 n2 n3 fh fs fk q1 q2 q3 H) (tk_w t [(4, 0, 0), (22, 0, 0), (20, 0, 0)])) 0 0 (tk_w t [(4, 0, 0), (22, 0, 0), (20, 0, 0)]) := by
  refine tk_met (y := yX3_strongest) (cc := cX3_strongest) (maxL := 3) (ret := (some .int)) (av := [.ref a0, .int p1, .int p2]) _ _ (by decide) (Nat.le_of_ble_eq_true rfl) ?_
  intro p e s m args below meth c hx hb hr hml hts htl hown hlocks hK H locs hH hG hS hB hZ ls hl
  have hown : s.vm.findClass RX3 = some m.cls := hown
  have hl : lv_has ls 3 [(0, .ref a0), (1, .int p1), (2, .int p2)] := hl
  have ⟨hj0_0, hj0_1, hj0_2, hj0_3, hj0_4, hj0_5, hj0_6, hj0_7, hj0_8, hj0_9⟩ := hB
  have hr_p1 := tk_rng p1
  have hr_p2 := tk_rng p2
  obtain ⟨bj, bb, bl, bs, J, B, ht_bj, ht_bb, ⟨hbl_0, hbl_1⟩, hM_0, hM_1, hM_2, hM_3, hM_4, hM_5⟩ := jM.ex hG ht_a0
  refine lv_aload_n hx hb dX3_strongest_0 rfl (lv_at hl 0 rfl) ?_
  refine lv_iconst (v := 0) hx hb dX3_strongest_1 (by decide) ?_
  refine tk_put (ci := 3) (v := .int 0) (ty := .int) (C := RX3) (T := TX3) (N := 5) (sp := (0, 0, 4, 0)) hx hb htl inX3 tyX3 tyX3_ok nmX3 hown hK hG hS ht_a0 (by decide) tk_no rfl 3 (by decide) (htl _ mw_1455) (fun _ h9 => h9) rfl (tyX3_ok 3 (by decide)) rfl rfl rfl (tk_V0 (by decide) (by decide)) (fun _ h => h) (tk_w.of ht_a0 (by decide) (List.mem_of_getElem? (i := 0) rfl) (Nat.le_refl _) (Nat.le_refl _)) dX3_strongest_2 (fun H locs hG hS hf1 hq9 hj9 => ?_)
  have hj0_0 := hj0_0.kept (hq9 _ (tk_ne ht_ld20 ht_a0 (Or.inl (by decide))))
  have hj0_1 := hj0_1.kept (hq9 _ (tk_ne ht_ld20 ht_a0 (Or.inl (by decide))))
  have hj0_2 := hj0_2.kept (hq9 _ (tk_ne ht_ld20 ht_a0 (Or.inl (by decide))))
  have hj0_3 := hj0_3.kept (hq9 _ (tk_ne ht_ld20 ht_a0 (Or.inl (by decide))))
  have hj0_4 := hj0_4.kept (hq9 _ (tk_ne ht_ld70 ht_a0 (Or.inl (by decide))))
  have hj0_5 := hj0_5.kept (hq9 _ (tk_ne ht_ld80 ht_a0 (Or.inl (by decide))))
  have hj0_6 := hj0_6.kept (hq9 _ (tk_ne ht_ld90 ht_a0 (Or.inl (by decide))))
  have hj0_7 := hj0_7.kept (hq9 _ (tk_ne ht_ld100 ht_a0 (Or.inl (by decide))))
  have hj0_8 := hj0_8.kept (hq9 _ (tk_ne ht_ld110 ht_a0 (Or.inl (by decide))))
  have hj0_9 := hj0_9.kept (hq9 _ (tk_ne ht_ld120 ht_a0 (Or.inl (by decide))))
  have hM_0 := hj9 1 _ (by decide) (by decide) hM_0
  have hM_1 := hj9 2 _ (by decide) (by decide) hM_1
  have hM_3 := hj9 4 _ (by decide) (by decide) hM_3
  have hM_4 := hM_4.kept (hq9 _ (tk_ne ht_bj ht_a0 (Or.inl (by decide))))
  have hM_5 := hM_5.kept (hq9 _ (tk_ne ht_bb ht_a0 (Or.inl (by decide))))
  refine lv_aload_n hx hb dX3_strongest_5 rfl (lv_at hl 0 rfl) ?_
  refine lv_iconst (v := (-1)) hx hb dX3_strongest_6 (by decide) ?_
  refine tk_put (ci := 3) (v := .int (-1)) (ty := .int) (C := RX3) (T := TX3) (N := 5) (sp := (0, (-2147483648), 2147483647, 0)) hx hb htl inX3 tyX3 tyX3_ok nmX3 hown hK hG hS ht_a0 (by decide) tk_no rfl 4 (by decide) (htl _ mw_1456) (fun _ h9 => h9) rfl (tyX3_ok 4 (by decide)) rfl rfl rfl (tk_V0 (tk_rng _).1 (tk_rng _).2) (fun _ h => h) (tk_w.of ht_a0 (by decide) (List.mem_of_getElem? (i := 0) rfl) (Nat.le_refl _) (Nat.le_refl _)) dX3_strongest_7 (fun H locs hG hS hf3 hq9 hj9 => ?_)
  have hj0_0 := hj0_0.kept (hq9 _ (tk_ne ht_ld20 ht_a0 (Or.inl (by decide))))
  have hj0_1 := hj0_1.kept (hq9 _ (tk_ne ht_ld20 ht_a0 (Or.inl (by decide))))
  have hj0_2 := hj0_2.kept (hq9 _ (tk_ne ht_ld20 ht_a0 (Or.inl (by decide))))
  have hj0_3 := hj0_3.kept (hq9 _ (tk_ne ht_ld20 ht_a0 (Or.inl (by decide))))
  have hj0_4 := hj0_4.kept (hq9 _ (tk_ne ht_ld70 ht_a0 (Or.inl (by decide))))
  have hj0_5 := hj0_5.kept (hq9 _ (tk_ne ht_ld80 ht_a0 (Or.inl (by decide))))
  have hj0_6 := hj0_6.kept (hq9 _ (tk_ne ht_ld90 ht_a0 (Or.inl (by decide))))
  have hj0_7 := hj0_7.kept (hq9 _ (tk_ne ht_ld100 ht_a0 (Or.inl (by decide))))
  have hj0_8 := hj0_8.kept (hq9 _ (tk_ne ht_ld110 ht_a0 (Or.inl (by decide))))
  have hj0_9 := hj0_9.kept (hq9 _ (tk_ne ht_ld120 ht_a0 (Or.inl (by decide))))
  have hM_0 := hj9 1 _ (by decide) (by decide) hM_0
  have hM_1 := hj9 2 _ (by decide) (by decide) hM_1
  have hM_4 := hM_4.kept (hq9 _ (tk_ne ht_bj ht_a0 (Or.inl (by decide))))
  have hM_5 := hM_5.kept (hq9 _ (tk_ne ht_bb ht_a0 (Or.inl (by decide))))
  have hf1 := hj9 3 _ (by decide) (by decide) hf1
  refine lv_aload_n hx hb dX3_strongest_10 rfl (lv_at hl 0 rfl) ?_
  refine lv_iconst (v := 0) hx hb dX3_strongest_11 (by decide) ?_
  refine lv_iconst (v := 0) hx hb dX3_strongest_12 (by decide) ?_
  refine lv_iconst (v := 0) hx hb dX3_strongest_13 (by decide) ?_
  refine lv_iload_n hx hb dX3_strongest_14 rfl (lv_at hl 1 rfl) ?_
  have hk_0 : (0 : Int32).toInt = 0 := by decide
  have hk_0 : (0 : Int32).toInt = 0 := by decide
  have hk_0 : (0 : Int32).toInt = 0 := by decide
  have hk_0 : (0 : Int32).toInt = 0 := by decide
  have hk_m1 : ((-1) : Int32).toInt = (-1) := by decide
  have hk_0 : (0 : Int32).toInt = 0 := by decide
  refine tk_Vv (As := [.int 0, .int 0, .int 0, .int p1]) (rest := []) (ci := 3) ⟨hx, hb, hml, hown, hts⟩ hK hG hZ hS (k_X3_joinMore_0_x l D cy ld t a0 0 0 p1 p1.toInt bj bb 0 (-1) J B n0 n1 n2 n3 fh fs fk q1 q2 q3 ht_a0 ht_bj ht_bb ht_ld20 ht_ld70 ht_ld80 ht_ld90 ht_ld100 ht_ld110 ht_ld120 (by omega) (by omega) (by omega) (by omega) (by omega) (by omega) (by omega) (by omega) (by omega) (by omega) (by omega) (by omega) (by omega) (by omega) hqr (mU_0 (by decide) rfl)) ⟨⟨hM_0, hM_1, hf1, hf3, hM_4, hM_5⟩, ⟨hj0_0, hj0_1, hj0_2, hj0_3, hj0_4, hj0_5, hj0_6, hj0_7, hj0_8, hj0_9⟩⟩ ⟨callB_of 4 hts (wl_in mw_1460) rfl rfl rfl (htl _ mw_48) (htl _ mw_1457) hd_yX3_joinMore ⟨(Nat.le_of_ble_eq_true rfl), (Nat.le_of_ble_eq_true rfl)⟩, htl _ mw_1458, htl _ mw_1459⟩ ht_a0 (by decide) tk_no rfl (tk_w.pick [1, 0, 2] rfl) rfl hl.1 rfl (Nat.le_of_ble_eq_true rfl) dX3_strongest_15 ⟨(Nat.le_of_ble_eq_true rfl), (Nat.le_of_ble_eq_true rfl)⟩ (fun H locs hpo hG hS hq9 => ?_)
  have hj0_0 := hj0_0.call hq9 (tk_w.no ht_ld20 (by decide))
  have hj0_1 := hj0_1.call hq9 (tk_w.no ht_ld20 (by decide))
  have hj0_2 := hj0_2.call hq9 (tk_w.no ht_ld20 (by decide))
  have hj0_3 := hj0_3.call hq9 (tk_w.no ht_ld20 (by decide))
  have hj0_4 := hj0_4.call hq9 (tk_w.no ht_ld70 (by decide))
  have hj0_5 := hj0_5.call hq9 (tk_w.no ht_ld80 (by decide))
  have hj0_6 := hj0_6.call hq9 (tk_w.no ht_ld90 (by decide))
  have hj0_7 := hj0_7.call hq9 (tk_w.no ht_ld100 (by decide))
  have hj0_8 := hj0_8.call hq9 (tk_w.no ht_ld110 (by decide))
  have hj0_9 := hj0_9.call hq9 (tk_w.no ht_ld120 (by decide))
  obtain ⟨hraw6, ⟨hj7, hj8, hj9, hj10, hj11, hj12, hj13, hj14, hj15, hj16⟩⟩ := hpo
  obtain ⟨v23, v24, f25, f26, ⟨hM_17, hM_18, hM_19, hM_20, hM_21, hM_22⟩, ⟨hlo_v23, hhi_v23⟩, hg27, hP28⟩ := hraw6
  have hq_v24 := tk_rng v24
  refine lv_iload_n hx hb dX3_strongest_18 rfl (lv_at hl 2 rfl) ?_
  refine lv_iconst (v := (-1)) hx hb dX3_strongest_19 (by decide) ?_
  refine lv_icmp_ne (tgt := 28) hx hb dX3_strongest_20 (by decide) (fun c9 => ?_) (fun c9 => ?_)
  · have hc29 : ¬ (p2.toInt = (-1)) := fun h9 => c9 ((fi_eq rfl (show ((-1) : Int32).toInt = (-1) by decide)).mpr h9)
    refine lv_iload_n hx hb dX3_strongest_28 rfl (lv_at hl 2 rfl) ?_
    refine lv_iconst (v := 0) hx hb dX3_strongest_29 (by decide) ?_
    refine lv_aload_n hx hb dX3_strongest_30 rfl (lv_at hl 0 rfl) ?_
    refine tk_getk (ci := 3) (C := RX3) (T := TX3) (N := 5) (sp := (0, 0, 4, 0)) hx hb htl inX3 hown hK hG ht_a0 (by decide) tk_no rfl 3 (by decide) (htl _ mw_1455) (fun _ h9 => h9) rfl hM_19 dX3_strongest_31 ?_
    refine lv_iconst (v := 1) hx hb dX3_strongest_34 (by decide) ?_
    refine lv_isub hx hb dX3_strongest_35 ?_
    refine tk_sub rfl (show (1 : Int32).toInt = 1 by decide) (by omega) (by omega) (fun v30 h_v30 => ?_)
    have hk_0 : (0 : Int32).toInt = 0 := by decide
    refine tk_Ni (As := [.int p2, .int 0, .int v30]) (rest := []) ⟨hx, hb, hml, hown, hts⟩ hK hG hZ hS (k_X12_within_x l D cy ld t _ p2 0 v30) trivial ⟨va_cnB 3 hts (wl_in mw_262) rfl rfl rfl hK.2.2.2.1.2.2.1 (htl _ mw_2) hd_yX12_within ⟨(Nat.le_of_ble_eq_true rfl), (Nat.le_of_ble_eq_true rfl)⟩, htl _ mw_261, trivial⟩ (tk_w.pick [] rfl) rfl hl.1 rfl (Nat.le_of_ble_eq_true rfl) dX3_strongest_36 ⟨(Nat.le_of_ble_eq_true rfl), (Nat.le_of_ble_eq_true rfl)⟩ (fun v31 H locs hpo hG hS hq9 => ?_)
    have hj7 := hj7.call hq9 tk_w.nil
    have hj8 := hj8.call hq9 tk_w.nil
    have hj9 := hj9.call hq9 tk_w.nil
    have hj10 := hj10.call hq9 tk_w.nil
    have hj11 := hj11.call hq9 tk_w.nil
    have hj12 := hj12.call hq9 tk_w.nil
    have hj13 := hj13.call hq9 tk_w.nil
    have hj14 := hj14.call hq9 tk_w.nil
    have hj15 := hj15.call hq9 tk_w.nil
    have hj16 := hj16.call hq9 tk_w.nil
    have hM_17 := hM_17.call hq9 tk_w.nil
    have hM_18 := hM_18.call hq9 tk_w.nil
    have hM_19 := hM_19.call hq9 tk_w.nil
    have hM_20 := hM_20.call hq9 tk_w.nil
    have hM_21 := hM_21.call hq9 tk_w.nil
    have hM_22 := hM_22.call hq9 tk_w.nil
    obtain ⟨hpo33, hpo34, hpo35, hpo36, hpo37, hpo38⟩ := hpo
    refine lv_if_eq (tgt := 51) hx hb dX3_strongest_39 (by decide) (fun c9 => ?_) (fun c9 => ?_)
    · have hc39 : v31.toInt = 0 := (fi_eq rfl (show (0 : Int32).toInt = 0 by decide)).mp c9
      refine lv_iconst (v := (-1)) hx hb dX3_strongest_51 (by decide) ?_
      have hk_m1 : ((-1) : Int32).toInt = (-1) := by decide
      have hk_m1 : ((-1) : Int32).toInt = (-1) := by decide
      exact tk_iret (v := (-1)) hx hb hr rfl hlocks (show (4 ≤ p2.toInt → ((-1) : Int32).toInt + 1 = 0) ∧ (p2.toInt ≤ (-2) → ((-1) : Int32).toInt + 1 = 0) ∧ mEnd n2.toInt p1.toInt (mq n2.toInt q1) (mq n2.toInt q2) (mq n2.toInt q3) p2.toInt ((-1) : Int32).toInt ∧ jC D ld (ld 20) 0 n0 n1 n2 n3 fh fs fk q1 q2 q3 H from ⟨(fun _ => by omega), (fun _ => by omega), (mEnd.of hP28 (by decide) (by decide) (fun E hE => (show ((-1) : Int32).toInt = -1 by decide).trans (mAns_n (by omega)).symm)), ⟨hj7, hj8, hj9, hj10, hj11, hj12, hj13, hj14, hj15, hj16⟩⟩) hG hS dX3_strongest_52
    · have hc39 : ¬ (v31.toInt = 0) := fun h9 => c9 ((fi_eq rfl (show (0 : Int32).toInt = 0 by decide)).mpr h9)
      refine lv_aload_n hx hb dX3_strongest_42 rfl (lv_at hl 0 rfl) ?_
      refine tk_getk (ci := 3) (C := RX3) (T := TX3) (N := 5) (sp := (6, 20, 4, 0)) hx hb htl inX3 hown hK hG ht_a0 (by decide) tk_no rfl 2 (by decide) (htl _ mw_174) (fun _ h9 => h9) rfl hM_18 dX3_strongest_43 ?_
      refine lv_iload_n hx hb dX3_strongest_46 rfl (lv_at hl 2 rfl) ?_
      refine tk_iald hx hb hK hG ht_bb (by decide) (fun _ h => h) tk_no rfl (by omega) (by omega) dX3_strongest_47 (fun v40 _ hz9 => ?_)
      have hr_v40 := tk_rng v40
      have ev_v40 : v40 = f26 p2.toNatClampNeg := hM_22.at hz9 (by have h9 : p2.toNatClampNeg = p2.toInt.toNat := rfl; omega)
      refine lv_goto (tgt := 52) hx hb dX3_strongest_48 (by decide) ?_
      exact tk_iret (v := v40) hx hb hr rfl hlocks (show (4 ≤ p2.toInt → v40.toInt + 1 = 0) ∧ (p2.toInt ≤ (-2) → v40.toInt + 1 = 0) ∧ mEnd n2.toInt p1.toInt (mq n2.toInt q1) (mq n2.toInt q2) (mq n2.toInt q3) p2.toInt v40.toInt ∧ jC D ld (ld 20) 0 n0 n1 n2 n3 fh fs fk q1 q2 q3 H from ⟨(fun _ => by omega), (fun _ => by omega), (mEnd.of hP28 (by decide) (by decide) (fun E hE => mAns_at (by omega) (by omega) hE ev_v40 rfl)), ⟨hj7, hj8, hj9, hj10, hj11, hj12, hj13, hj14, hj15, hj16⟩⟩) hG hS dX3_strongest_52
  · have hc29 : p2.toInt = (-1) := (fi_eq rfl (show ((-1) : Int32).toInt = (-1) by decide)).mp c9
    refine lv_aload_n hx hb dX3_strongest_23 rfl (lv_at hl 0 rfl) ?_
    refine tk_getk (ci := 3) (C := RX3) (T := TX3) (N := 5) (sp := (0, (-2147483648), 2147483647, 0)) hx hb htl inX3 hown hK hG ht_a0 (by decide) tk_no rfl 4 (by decide) (htl _ mw_1456) (fun _ h9 => h9) rfl hM_20 dX3_strongest_24 ?_
    exact tk_iret (v := v24) hx hb hr rfl hlocks (show (4 ≤ p2.toInt → v24.toInt + 1 = 0) ∧ (p2.toInt ≤ (-2) → v24.toInt + 1 = 0) ∧ mEnd n2.toInt p1.toInt (mq n2.toInt q1) (mq n2.toInt q2) (mq n2.toInt q3) p2.toInt v24.toInt ∧ jC D ld (ld 20) 0 n0 n1 n2 n3 fh fs fk q1 q2 q3 H from ⟨(fun _ => by omega), (fun _ => by omega), (mEnd.of hP28 (by decide) (by decide) (fun E hE => (mAns_s (by omega)).symm)), ⟨hj7, hj8, hj9, hj10, hj11, hj12, hj13, hj14, hj15, hj16⟩⟩) hG hS dX3_strongest_27
set_option maxHeartbeats 4000000 in
set_option maxRecDepth 100000 in
theorem k_X12_made_x (l : Launch) (D : va_G) (cy : Nat → ClassId) (ld : Nat → Nat) (t : tk_T) (a0 : Nat) (p1 : Int32) (p2 : Int32) (n0 n1 n2 n3 : Int32) (fh fs fk q1 q2 q3 : Nat → Int32) (ht_a0 : t a0 = (13, 0, 0)) (ht_ld20 : t (ld 20) = (3, 0, 0)) (ht_ld70 : t (ld 70) = (32, 8, 0)) (ht_ld80 : t (ld 80) = (33, 10, 0)) (ht_ld90 : t (ld 90) = (34, 10, 0)) (ht_ld100 : t (ld 100) = (35, 10, 0)) (ht_ld110 : t (ld 110) = (36, 10, 0)) (ht_ld120 : t (ld 120) = (37, 10, 0)) (hp_0 : 0 ≤ n0.toInt) (hp_1 : n0.toInt ≤ 8) (hp_2 : 0 ≤ n1.toInt) (hp_3 : n1.toInt ≤ 10) (hp_4 : 0 ≤ n2.toInt) (hp_5 : n2.toInt ≤ 10) (hp_6 : 0 ≤ n3.toInt) (hp_7 : n3.toInt ≤ 8) (hqr : ∀ j : Nat, (j : Int) < n2.toInt → (1 ≤ (q1 j).toInt ∧ (q1 j).toInt ≤ 99) ∧ 1 ≤ (q3 j).toInt ∧ (q3 j).toInt ≤ 9) : Met l yX12_made (wl yX12_made cX12_made 3 (some .int)) ({ frames := 10, cells := 0, slots := 0, locals := 630 }) (tp D cy ld t [] [.ref a0, .int p1, .int p2] (fun H => jC D ld (ld 20) 0 n0 n1 n2 n3 fh fs fk q1 q2 q3 H)) (ti D cy ld t [] (fun r H => (p1.toInt ≤ 0 → r.toInt + 1 = 0) ∧ (37 ≤ p1.toInt → r.toInt + 1 = 0) ∧ (4 ≤ p2.toInt → r.toInt + 1 = 0) ∧ (p2.toInt ≤ (-2) → r.toInt + 1 = 0) ∧ (1 ≤ p1.toInt → p1.toInt ≤ 36 → mEnd n2.toInt p1.toInt (mq n2.toInt q1) (mq n2.toInt q2) (mq n2.toInt q3) p2.toInt r.toInt) ∧ jC D ld (ld 20) 0 n0 n1 n2 n3 fh fs fk q1 q2 q3 H) (tk_w t [(4, 0, 0), (22, 0, 0), (20, 0, 0)])) 0 0 (tk_w t [(4, 0, 0), (22, 0, 0), (20, 0, 0)]) := by
  refine tk_met (y := yX12_made) (cc := cX12_made) (maxL := 3) (ret := (some .int)) (av := [.ref a0, .int p1, .int p2]) _ _ (by decide) (Nat.le_of_ble_eq_true rfl) ?_
  intro p e s m args below meth c hx hb hr hml hts htl hown hlocks hK H locs hH hG hS hB hZ ls hl
  have hown : s.vm.findClass RX12 = some m.cls := hown
  have hl : lv_has ls 3 [(0, .ref a0), (1, .int p1), (2, .int p2)] := hl
  have ⟨hj0_0, hj0_1, hj0_2, hj0_3, hj0_4, hj0_5, hj0_6, hj0_7, hj0_8, hj0_9⟩ := hB
  have hr_p1 := tk_rng p1
  have hr_p2 := tk_rng p2
  refine lv_iload_n hx hb dX12_made_0 rfl (lv_at hl 1 rfl) ?_
  refine lv_iconst (v := 1) hx hb dX12_made_1 (by decide) ?_
  refine lv_bipush (v := 36) hx hb dX12_made_2 (by decide) ?_
  have hk_1 : (1 : Int32).toInt = 1 := by decide
  have hk_36 : (36 : Int32).toInt = 36 := by decide
  refine tk_Si (As := [.int p1, .int 1, .int 36]) (rest := []) ⟨hx, hb, hml, hown, hts⟩ hK hG hZ hS (k_X12_within_x l D cy ld t _ p1 1 36) trivial ⟨callB_of 3 hts (wl_in mw_262) rfl rfl rfl (htl _ mw_2) (htl _ mw_277) hd_yX12_within ⟨(Nat.le_of_ble_eq_true rfl), (Nat.le_of_ble_eq_true rfl)⟩, htl _ mw_261⟩ (tk_w.pick [] rfl) rfl hl.1 rfl (Nat.le_of_ble_eq_true rfl) dX12_made_4 ⟨(Nat.le_of_ble_eq_true rfl), (Nat.le_of_ble_eq_true rfl)⟩ (fun v1 H locs hpo hG hS hq9 => ?_)
  have hj0_0 := hj0_0.call hq9 tk_w.nil
  have hj0_1 := hj0_1.call hq9 tk_w.nil
  have hj0_2 := hj0_2.call hq9 tk_w.nil
  have hj0_3 := hj0_3.call hq9 tk_w.nil
  have hj0_4 := hj0_4.call hq9 tk_w.nil
  have hj0_5 := hj0_5.call hq9 tk_w.nil
  have hj0_6 := hj0_6.call hq9 tk_w.nil
  have hj0_7 := hj0_7.call hq9 tk_w.nil
  have hj0_8 := hj0_8.call hq9 tk_w.nil
  have hj0_9 := hj0_9.call hq9 tk_w.nil
  obtain ⟨hpo3, hpo4, hpo5, hpo6, hpo7, hpo8⟩ := hpo
  refine lv_if_ne (tgt := 12) hx hb dX12_made_7 (by decide) (fun c9 => ?_) (fun c9 => ?_)
  · have hc9 : ¬ (v1.toInt = 0) := fun h9 => c9 ((fi_eq rfl (show (0 : Int32).toInt = 0 by decide)).mpr h9)
    refine lv_aload_n hx hb dX12_made_12 rfl (lv_at hl 0 rfl) ?_
    refine tk_get (ci := 12) (C := RX12) (T := TX12) (N := 17) (sp := (6, 4, 0, 0)) hx hb htl inX12 hown hK hG ht_a0 (by decide) tk_no rfl 9 (by decide) (htl _ mw_49) (fun _ h9 => h9) rfl dX12_made_13 (fun v9 hf10 hV9 => ?_)
    obtain ⟨b11, rfl, ht_b11⟩ := hV9
    have ht_b11 : t b11 = (4, 0, 0) := ht_b11
    refine lv_iload_n hx hb dX12_made_16 rfl (lv_at hl 1 rfl) ?_
    refine lv_iload_n hx hb dX12_made_17 rfl (lv_at hl 2 rfl) ?_
    refine tk_Vi (As := [.int p1, .int p2]) (rest := []) (ci := 3) ⟨hx, hb, hml, hown, hts⟩ hK hG hZ hS (k_X3_strongest_x l D cy ld t b11 p1 p2 n0 n1 n2 n3 fh fs fk q1 q2 q3 ht_b11 ht_ld20 ht_ld70 ht_ld80 ht_ld90 ht_ld100 ht_ld110 ht_ld120 (by omega) (by omega) (by omega) (by omega) (by omega) (by omega) (by omega) (by omega) (by omega) (by omega) hqr) ⟨hj0_0, hj0_1, hj0_2, hj0_3, hj0_4, hj0_5, hj0_6, hj0_7, hj0_8, hj0_9⟩ ⟨callB_of 2 hts (wl_in mw_1454) rfl rfl rfl (htl _ mw_48) (htl _ mw_1451) hd_yX3_strongest ⟨(Nat.le_of_ble_eq_true rfl), (Nat.le_of_ble_eq_true rfl)⟩, htl _ mw_1452, htl _ mw_1453⟩ ht_b11 (by decide) tk_no rfl (tk_w.pick [0, 1, 2] rfl) rfl hl.1 rfl (Nat.le_of_ble_eq_true rfl) dX12_made_18 ⟨(Nat.le_of_ble_eq_true rfl), (Nat.le_of_ble_eq_true rfl)⟩ (fun v12 H locs hpo hG hS hq9 => ?_)
    have hj0_0 := hj0_0.call hq9 (tk_w.no ht_ld20 (by decide))
    have hj0_1 := hj0_1.call hq9 (tk_w.no ht_ld20 (by decide))
    have hj0_2 := hj0_2.call hq9 (tk_w.no ht_ld20 (by decide))
    have hj0_3 := hj0_3.call hq9 (tk_w.no ht_ld20 (by decide))
    have hj0_4 := hj0_4.call hq9 (tk_w.no ht_ld70 (by decide))
    have hj0_5 := hj0_5.call hq9 (tk_w.no ht_ld80 (by decide))
    have hj0_6 := hj0_6.call hq9 (tk_w.no ht_ld90 (by decide))
    have hj0_7 := hj0_7.call hq9 (tk_w.no ht_ld100 (by decide))
    have hj0_8 := hj0_8.call hq9 (tk_w.no ht_ld110 (by decide))
    have hj0_9 := hj0_9.call hq9 (tk_w.no ht_ld120 (by decide))
    obtain ⟨hpo14, hpo15, hraw16, ⟨hj17, hj18, hj19, hj20, hj21, hj22, hj23, hj24, hj25, hj26⟩⟩ := hpo
    exact tk_iret (v := v12) hx hb hr rfl hlocks (show (p1.toInt ≤ 0 → v12.toInt + 1 = 0) ∧ (37 ≤ p1.toInt → v12.toInt + 1 = 0) ∧ (4 ≤ p2.toInt → v12.toInt + 1 = 0) ∧ (p2.toInt ≤ (-2) → v12.toInt + 1 = 0) ∧ (1 ≤ p1.toInt → p1.toInt ≤ 36 → mEnd n2.toInt p1.toInt (mq n2.toInt q1) (mq n2.toInt q2) (mq n2.toInt q3) p2.toInt v12.toInt) ∧ jC D ld (ld 20) 0 n0 n1 n2 n3 fh fs fk q1 q2 q3 H from ⟨(fun _ => by omega), (fun _ => by omega), (fun _ => by omega), (fun _ => by omega), (fun _ _ => hraw16), ⟨hj17, hj18, hj19, hj20, hj21, hj22, hj23, hj24, hj25, hj26⟩⟩) hG hS dX12_made_21
  · have hc9 : v1.toInt = 0 := (fi_eq rfl (show (0 : Int32).toInt = 0 by decide)).mp c9
    refine lv_iconst (v := (-1)) hx hb dX12_made_10 (by decide) ?_
    have hk_m1 : ((-1) : Int32).toInt = (-1) := by decide
    exact tk_iret (v := (-1)) hx hb hr rfl hlocks (show (p1.toInt ≤ 0 → ((-1) : Int32).toInt + 1 = 0) ∧ (37 ≤ p1.toInt → ((-1) : Int32).toInt + 1 = 0) ∧ (4 ≤ p2.toInt → ((-1) : Int32).toInt + 1 = 0) ∧ (p2.toInt ≤ (-2) → ((-1) : Int32).toInt + 1 = 0) ∧ (1 ≤ p1.toInt → p1.toInt ≤ 36 → mEnd n2.toInt p1.toInt (mq n2.toInt q1) (mq n2.toInt q2) (mq n2.toInt q3) p2.toInt ((-1) : Int32).toInt) ∧ jC D ld (ld 20) 0 n0 n1 n2 n3 fh fs fk q1 q2 q3 H from ⟨(fun _ => by omega), (fun _ => by omega), (fun _ => by omega), (fun _ => by omega), (fun h8 h9 => (show False by omega).elim), ⟨hj0_0, hj0_1, hj0_2, hj0_3, hj0_4, hj0_5, hj0_6, hj0_7, hj0_8, hj0_9⟩⟩) hG hS dX12_made_11
set_option maxHeartbeats 4000000 in
set_option maxRecDepth 100000 in
theorem k_X2_addSight_x (l : Launch) (D : va_G) (cy : Nat → ClassId) (ld : Nat → Nat) (t : tk_T) (a0 : Nat) (p1 : Int32) (p2 : Int32) (p3 : Int32) (p4 : Int32) (p5 : Int32) (n0 n1 n2 n3 : Int32) (fh fs fk q1 q2 q3 : Nat → Int32) (ht_a0 : t a0 = (3, 0, 0)) (ht_ld70 : t (ld 70) = (32, 8, 0)) (ht_ld80 : t (ld 80) = (33, 10, 0)) (ht_ld90 : t (ld 90) = (34, 10, 0)) (ht_ld100 : t (ld 100) = (35, 10, 0)) (ht_ld110 : t (ld 110) = (36, 10, 0)) (ht_ld120 : t (ld 120) = (37, 10, 0)) (hp_0 : 0 ≤ p1.toInt) (hp_1 : p1.toInt ≤ 9) (hp_2 : 0 ≤ p2.toInt) (hp_3 : p2.toInt ≤ 7) (hp_4 : 0 ≤ p3.toInt) (hp_5 : p3.toInt ≤ 11) (hp_6 : 0 ≤ p4.toInt) (hp_7 : p4.toInt ≤ 1) (hp_8 : 0 ≤ p5.toInt) (hp_9 : p5.toInt ≤ 1) (hp_10 : 0 ≤ n0.toInt) (hp_11 : n0.toInt ≤ 8) (hp_12 : 0 ≤ n1.toInt) (hp_13 : n1.toInt ≤ 10) (hp_14 : 0 ≤ n2.toInt) (hp_15 : n2.toInt ≤ 10) (hp_16 : 0 ≤ n3.toInt) (hp_17 : n3.toInt ≤ 8) : Met l yX2_addSight (wl yX2_addSight cX2_addSight 7 (some .int)) ({ frames := 3, cells := 0, slots := 0, locals := 140 }) (tp D cy ld t [] [.ref a0, .int p1, .int p2, .int p3, .int p4, .int p5] (fun H => jC D ld a0 0 n0 n1 n2 n3 fh fs fk q1 q2 q3 H)) (ti D cy ld t [] (fun r H => (n3.toInt ≤ 7 → (-1) * n3.toInt + r.toInt + (-1) = 0) ∧ (8 ≤ n3.toInt → r.toInt + 5 = 0) ∧ (0 ≤ r.toInt → n3.toInt ≤ 7) ∧ (∃ n3x : Int32, jC D ld a0 0 n0 n1 n2 n3x fh fs fk q1 q2 q3 H ∧ (0 ≤ r.toInt → (-1) * n3.toInt + n3x.toInt + (-1) = 0) ∧ (r.toInt ≤ (-1) → (-1) * n3.toInt + n3x.toInt = 0))) (tk_w t [(24, 0, 0), (3, 0, 0)])) 0 0 (tk_w t [(24, 0, 0), (3, 0, 0)]) := by
  refine tk_met (y := yX2_addSight) (cc := cX2_addSight) (maxL := 7) (ret := (some .int)) (av := [.ref a0, .int p1, .int p2, .int p3, .int p4, .int p5]) _ _ (by decide) (Nat.le_of_ble_eq_true rfl) ?_
  intro p e s m args below meth c hx hb hr hml hts htl hown hlocks hK H locs hH hG hS hB hZ ls hl
  have hown : s.vm.findClass RX2 = some m.cls := hown
  have hl : lv_has ls 7 [(0, .ref a0), (1, .int p1), (2, .int p2), (3, .int p3), (4, .int p4), (5, .int p5)] := hl
  have ⟨hj0_0, hj0_1, hj0_2, hj0_3, hj0_4, hj0_5, hj0_6, hj0_7, hj0_8, hj0_9⟩ := hB
  have hr_p1 := tk_rng p1
  have hr_p2 := tk_rng p2
  have hr_p3 := tk_rng p3
  have hr_p4 := tk_rng p4
  have hr_p5 := tk_rng p5
  refine lv_aload_n hx hb dX2_addSight_0 rfl (lv_at hl 0 rfl) ?_
  refine tk_getk (ci := 2) (C := RX2) (T := TX2) (N := 20) (sp := (0, 0, 8, 0)) hx hb htl inX2 hown hK hG ht_a0 (by decide) tk_no rfl 11 (by decide) (htl _ mw_1489) (fun _ h9 => h9) rfl hj0_3 dX2_addSight_1 ?_
  refine lv_bipush (v := 8) hx hb dX2_addSight_4 (by decide) ?_
  refine lv_icmp_lt (tgt := 12) hx hb dX2_addSight_6 (by decide) (fun c9 => ?_) (fun c9 => ?_)
  · have hc1 : n3.toInt < 8 := (fi_lt rfl (show (8 : Int32).toInt = 8 by decide)).mp c9
    refine lv_aload_n hx hb dX2_addSight_12 rfl (lv_at hl 0 rfl) ?_
    refine tk_getk (ci := 2) (C := RX2) (T := TX2) (N := 20) (sp := (0, 0, 8, 0)) hx hb htl inX2 hown hK hG ht_a0 (by decide) tk_no rfl 11 (by decide) (htl _ mw_1489) (fun _ h9 => h9) rfl hj0_3 dX2_addSight_13 ?_
    refine lv_iconst (v := 5) hx hb dX2_addSight_16 (by decide) ?_
    refine lv_imul hx hb dX2_addSight_17 ?_
    refine tk_mul rfl (show (5 : Int32).toInt = 5 by decide) (by omega) (by omega) (fun v2 h_v2 => ?_)
    refine lv_istore (lv' := [(6, .int v2), (0, .ref a0), (1, .int p1), (2, .int p2), (3, .int p3), (4, .int p4), (5, .int p5)]) hx hb dX2_addSight_18 hl (by decide) rfl (fun ls hl => ?_)
    refine lv_aload_n hx hb dX2_addSight_20 rfl (lv_at hl 1 rfl) ?_
    refine tk_get (ci := 2) (C := RX2) (T := TX2) (N := 20) (sp := (1, 24, 40, 0)) hx hb htl inX2 hown hK hG ht_a0 (by decide) tk_no rfl 12 (by decide) (htl _ mw_68) (fun _ h9 => h9) rfl dX2_addSight_21 (fun v9 hf3 hV9 => ?_)
    obtain ⟨b4, rfl, ht_b4⟩ := hV9
    have ht_b4 : t b4 = (24, 40, 0) := ht_b4
    refine lv_iload hx hb dX2_addSight_24 (lv_at hl 0 rfl) ?_
    refine lv_iload_n hx hb dX2_addSight_26 rfl (lv_at hl 2 rfl) ?_
    refine tk_iast hx hb hK hG hS ht_b4 (by decide) (fun _ => Iff.rfl) tk_no rfl (by omega) (by omega) (show 0 ≤ (p1 : Int32).toInt ∧ (p1 : Int32).toInt ≤ 11 ∧ (v2.toInt % 5 = 0 → (p1 : Int32).toInt ≤ 9) ∧ (v2.toInt % 5 = 1 → (p1 : Int32).toInt ≤ 7) from ⟨by omega, by omega, by omega, by omega⟩) (tk_w.of ht_b4 (by decide) (List.mem_of_getElem? (i := 0) rfl) (Nat.le_refl _) (Nat.le_refl _)) dX2_addSight_27 (fun H locs hG hS hq9 => ?_)
    have hj0_0 := hj0_0.kept (hq9 _ (tk_ne ht_a0 ht_b4 (Or.inl (by decide))))
    have hj0_1 := hj0_1.kept (hq9 _ (tk_ne ht_a0 ht_b4 (Or.inl (by decide))))
    have hj0_2 := hj0_2.kept (hq9 _ (tk_ne ht_a0 ht_b4 (Or.inl (by decide))))
    have hj0_3 := hj0_3.kept (hq9 _ (tk_ne ht_a0 ht_b4 (Or.inl (by decide))))
    have hj0_4 := hj0_4.kept (hq9 _ (tk_ne ht_ld70 ht_b4 (Or.inl (by decide))))
    have hj0_5 := hj0_5.kept (hq9 _ (tk_ne ht_ld80 ht_b4 (Or.inl (by decide))))
    have hj0_6 := hj0_6.kept (hq9 _ (tk_ne ht_ld90 ht_b4 (Or.inl (by decide))))
    have hj0_7 := hj0_7.kept (hq9 _ (tk_ne ht_ld100 ht_b4 (Or.inl (by decide))))
    have hj0_8 := hj0_8.kept (hq9 _ (tk_ne ht_ld110 ht_b4 (Or.inl (by decide))))
    have hj0_9 := hj0_9.kept (hq9 _ (tk_ne ht_ld120 ht_b4 (Or.inl (by decide))))
    refine lv_aload_n hx hb dX2_addSight_28 rfl (lv_at hl 1 rfl) ?_
    refine tk_get (ci := 2) (C := RX2) (T := TX2) (N := 20) (sp := (1, 24, 40, 0)) hx hb htl inX2 hown hK hG ht_a0 (by decide) tk_no rfl 12 (by decide) (htl _ mw_68) (fun _ h9 => h9) rfl dX2_addSight_29 (fun v9 hf6 hV9 => ?_)
    obtain ⟨b7, rfl, ht_b7⟩ := hV9
    have ht_b7 : t b7 = (24, 40, 0) := ht_b7
    refine lv_iload hx hb dX2_addSight_32 (lv_at hl 0 rfl) ?_
    refine lv_iconst (v := 1) hx hb dX2_addSight_34 (by decide) ?_
    refine lv_iadd hx hb dX2_addSight_35 ?_
    refine tk_add rfl (show (1 : Int32).toInt = 1 by decide) (by omega) (by omega) (fun v8 h_v8 => ?_)
    refine lv_iload_n hx hb dX2_addSight_36 rfl (lv_at hl 3 rfl) ?_
    refine tk_iast hx hb hK hG hS ht_b7 (by decide) (fun _ => Iff.rfl) tk_no rfl (by omega) (by omega) (show 0 ≤ (p2 : Int32).toInt ∧ (p2 : Int32).toInt ≤ 11 ∧ (v8.toInt % 5 = 0 → (p2 : Int32).toInt ≤ 9) ∧ (v8.toInt % 5 = 1 → (p2 : Int32).toInt ≤ 7) from ⟨by omega, by omega, by omega, by omega⟩) (tk_w.of ht_b7 (by decide) (List.mem_of_getElem? (i := 0) rfl) (Nat.le_refl _) (Nat.le_refl _)) dX2_addSight_37 (fun H locs hG hS hq9 => ?_)
    have hj0_0 := hj0_0.kept (hq9 _ (tk_ne ht_a0 ht_b7 (Or.inl (by decide))))
    have hj0_1 := hj0_1.kept (hq9 _ (tk_ne ht_a0 ht_b7 (Or.inl (by decide))))
    have hj0_2 := hj0_2.kept (hq9 _ (tk_ne ht_a0 ht_b7 (Or.inl (by decide))))
    have hj0_3 := hj0_3.kept (hq9 _ (tk_ne ht_a0 ht_b7 (Or.inl (by decide))))
    have hj0_4 := hj0_4.kept (hq9 _ (tk_ne ht_ld70 ht_b7 (Or.inl (by decide))))
    have hj0_5 := hj0_5.kept (hq9 _ (tk_ne ht_ld80 ht_b7 (Or.inl (by decide))))
    have hj0_6 := hj0_6.kept (hq9 _ (tk_ne ht_ld90 ht_b7 (Or.inl (by decide))))
    have hj0_7 := hj0_7.kept (hq9 _ (tk_ne ht_ld100 ht_b7 (Or.inl (by decide))))
    have hj0_8 := hj0_8.kept (hq9 _ (tk_ne ht_ld110 ht_b7 (Or.inl (by decide))))
    have hj0_9 := hj0_9.kept (hq9 _ (tk_ne ht_ld120 ht_b7 (Or.inl (by decide))))
    refine lv_aload_n hx hb dX2_addSight_38 rfl (lv_at hl 1 rfl) ?_
    refine tk_get (ci := 2) (C := RX2) (T := TX2) (N := 20) (sp := (1, 24, 40, 0)) hx hb htl inX2 hown hK hG ht_a0 (by decide) tk_no rfl 12 (by decide) (htl _ mw_68) (fun _ h9 => h9) rfl dX2_addSight_39 (fun v9 hf10 hV9 => ?_)
    obtain ⟨b11, rfl, ht_b11⟩ := hV9
    have ht_b11 : t b11 = (24, 40, 0) := ht_b11
    refine lv_iload hx hb dX2_addSight_42 (lv_at hl 0 rfl) ?_
    refine lv_iconst (v := 2) hx hb dX2_addSight_44 (by decide) ?_
    refine lv_iadd hx hb dX2_addSight_45 ?_
    refine tk_add rfl (show (2 : Int32).toInt = 2 by decide) (by omega) (by omega) (fun v12 h_v12 => ?_)
    refine lv_iload_n hx hb dX2_addSight_46 rfl (lv_at hl 4 rfl) ?_
    refine tk_iast hx hb hK hG hS ht_b11 (by decide) (fun _ => Iff.rfl) tk_no rfl (by omega) (by omega) (show 0 ≤ (p3 : Int32).toInt ∧ (p3 : Int32).toInt ≤ 11 ∧ (v12.toInt % 5 = 0 → (p3 : Int32).toInt ≤ 9) ∧ (v12.toInt % 5 = 1 → (p3 : Int32).toInt ≤ 7) from ⟨by omega, by omega, by omega, by omega⟩) (tk_w.of ht_b11 (by decide) (List.mem_of_getElem? (i := 0) rfl) (Nat.le_refl _) (Nat.le_refl _)) dX2_addSight_47 (fun H locs hG hS hq9 => ?_)
    have hj0_0 := hj0_0.kept (hq9 _ (tk_ne ht_a0 ht_b11 (Or.inl (by decide))))
    have hj0_1 := hj0_1.kept (hq9 _ (tk_ne ht_a0 ht_b11 (Or.inl (by decide))))
    have hj0_2 := hj0_2.kept (hq9 _ (tk_ne ht_a0 ht_b11 (Or.inl (by decide))))
    have hj0_3 := hj0_3.kept (hq9 _ (tk_ne ht_a0 ht_b11 (Or.inl (by decide))))
    have hj0_4 := hj0_4.kept (hq9 _ (tk_ne ht_ld70 ht_b11 (Or.inl (by decide))))
    have hj0_5 := hj0_5.kept (hq9 _ (tk_ne ht_ld80 ht_b11 (Or.inl (by decide))))
    have hj0_6 := hj0_6.kept (hq9 _ (tk_ne ht_ld90 ht_b11 (Or.inl (by decide))))
    have hj0_7 := hj0_7.kept (hq9 _ (tk_ne ht_ld100 ht_b11 (Or.inl (by decide))))
    have hj0_8 := hj0_8.kept (hq9 _ (tk_ne ht_ld110 ht_b11 (Or.inl (by decide))))
    have hj0_9 := hj0_9.kept (hq9 _ (tk_ne ht_ld120 ht_b11 (Or.inl (by decide))))
    refine lv_aload_n hx hb dX2_addSight_48 rfl (lv_at hl 1 rfl) ?_
    refine tk_get (ci := 2) (C := RX2) (T := TX2) (N := 20) (sp := (1, 24, 40, 0)) hx hb htl inX2 hown hK hG ht_a0 (by decide) tk_no rfl 12 (by decide) (htl _ mw_68) (fun _ h9 => h9) rfl dX2_addSight_49 (fun v9 hf14 hV9 => ?_)
    obtain ⟨b15, rfl, ht_b15⟩ := hV9
    have ht_b15 : t b15 = (24, 40, 0) := ht_b15
    refine lv_iload hx hb dX2_addSight_52 (lv_at hl 0 rfl) ?_
    refine lv_iconst (v := 3) hx hb dX2_addSight_54 (by decide) ?_
    refine lv_iadd hx hb dX2_addSight_55 ?_
    refine tk_add rfl (show (3 : Int32).toInt = 3 by decide) (by omega) (by omega) (fun v16 h_v16 => ?_)
    refine lv_iload hx hb dX2_addSight_56 (lv_at hl 5 rfl) ?_
    refine tk_iast hx hb hK hG hS ht_b15 (by decide) (fun _ => Iff.rfl) tk_no rfl (by omega) (by omega) (show 0 ≤ (p4 : Int32).toInt ∧ (p4 : Int32).toInt ≤ 11 ∧ (v16.toInt % 5 = 0 → (p4 : Int32).toInt ≤ 9) ∧ (v16.toInt % 5 = 1 → (p4 : Int32).toInt ≤ 7) from ⟨by omega, by omega, by omega, by omega⟩) (tk_w.of ht_b15 (by decide) (List.mem_of_getElem? (i := 0) rfl) (Nat.le_refl _) (Nat.le_refl _)) dX2_addSight_58 (fun H locs hG hS hq9 => ?_)
    have hj0_0 := hj0_0.kept (hq9 _ (tk_ne ht_a0 ht_b15 (Or.inl (by decide))))
    have hj0_1 := hj0_1.kept (hq9 _ (tk_ne ht_a0 ht_b15 (Or.inl (by decide))))
    have hj0_2 := hj0_2.kept (hq9 _ (tk_ne ht_a0 ht_b15 (Or.inl (by decide))))
    have hj0_3 := hj0_3.kept (hq9 _ (tk_ne ht_a0 ht_b15 (Or.inl (by decide))))
    have hj0_4 := hj0_4.kept (hq9 _ (tk_ne ht_ld70 ht_b15 (Or.inl (by decide))))
    have hj0_5 := hj0_5.kept (hq9 _ (tk_ne ht_ld80 ht_b15 (Or.inl (by decide))))
    have hj0_6 := hj0_6.kept (hq9 _ (tk_ne ht_ld90 ht_b15 (Or.inl (by decide))))
    have hj0_7 := hj0_7.kept (hq9 _ (tk_ne ht_ld100 ht_b15 (Or.inl (by decide))))
    have hj0_8 := hj0_8.kept (hq9 _ (tk_ne ht_ld110 ht_b15 (Or.inl (by decide))))
    have hj0_9 := hj0_9.kept (hq9 _ (tk_ne ht_ld120 ht_b15 (Or.inl (by decide))))
    refine lv_aload_n hx hb dX2_addSight_59 rfl (lv_at hl 1 rfl) ?_
    refine tk_get (ci := 2) (C := RX2) (T := TX2) (N := 20) (sp := (1, 24, 40, 0)) hx hb htl inX2 hown hK hG ht_a0 (by decide) tk_no rfl 12 (by decide) (htl _ mw_68) (fun _ h9 => h9) rfl dX2_addSight_60 (fun v9 hf18 hV9 => ?_)
    obtain ⟨b19, rfl, ht_b19⟩ := hV9
    have ht_b19 : t b19 = (24, 40, 0) := ht_b19
    refine lv_iload hx hb dX2_addSight_63 (lv_at hl 0 rfl) ?_
    refine lv_iconst (v := 4) hx hb dX2_addSight_65 (by decide) ?_
    refine lv_iadd hx hb dX2_addSight_66 ?_
    refine tk_add rfl (show (4 : Int32).toInt = 4 by decide) (by omega) (by omega) (fun v20 h_v20 => ?_)
    refine lv_iload hx hb dX2_addSight_67 (lv_at hl 6 rfl) ?_
    refine tk_iast hx hb hK hG hS ht_b19 (by decide) (fun _ => Iff.rfl) tk_no rfl (by omega) (by omega) (show 0 ≤ (p5 : Int32).toInt ∧ (p5 : Int32).toInt ≤ 11 ∧ (v20.toInt % 5 = 0 → (p5 : Int32).toInt ≤ 9) ∧ (v20.toInt % 5 = 1 → (p5 : Int32).toInt ≤ 7) from ⟨by omega, by omega, by omega, by omega⟩) (tk_w.of ht_b19 (by decide) (List.mem_of_getElem? (i := 0) rfl) (Nat.le_refl _) (Nat.le_refl _)) dX2_addSight_69 (fun H locs hG hS hq9 => ?_)
    have hj0_0 := hj0_0.kept (hq9 _ (tk_ne ht_a0 ht_b19 (Or.inl (by decide))))
    have hj0_1 := hj0_1.kept (hq9 _ (tk_ne ht_a0 ht_b19 (Or.inl (by decide))))
    have hj0_2 := hj0_2.kept (hq9 _ (tk_ne ht_a0 ht_b19 (Or.inl (by decide))))
    have hj0_3 := hj0_3.kept (hq9 _ (tk_ne ht_a0 ht_b19 (Or.inl (by decide))))
    have hj0_4 := hj0_4.kept (hq9 _ (tk_ne ht_ld70 ht_b19 (Or.inl (by decide))))
    have hj0_5 := hj0_5.kept (hq9 _ (tk_ne ht_ld80 ht_b19 (Or.inl (by decide))))
    have hj0_6 := hj0_6.kept (hq9 _ (tk_ne ht_ld90 ht_b19 (Or.inl (by decide))))
    have hj0_7 := hj0_7.kept (hq9 _ (tk_ne ht_ld100 ht_b19 (Or.inl (by decide))))
    have hj0_8 := hj0_8.kept (hq9 _ (tk_ne ht_ld110 ht_b19 (Or.inl (by decide))))
    have hj0_9 := hj0_9.kept (hq9 _ (tk_ne ht_ld120 ht_b19 (Or.inl (by decide))))
    refine lv_aload_n hx hb dX2_addSight_70 rfl (lv_at hl 1 rfl) ?_
    refine lv_dup hx hb dX2_addSight_71 rfl ?_
    refine tk_getk (ci := 2) (C := RX2) (T := TX2) (N := 20) (sp := (0, 0, 8, 0)) hx hb htl inX2 hown hK hG ht_a0 (by decide) tk_no rfl 11 (by decide) (htl _ mw_1489) (fun _ h9 => h9) rfl hj0_3 dX2_addSight_72 ?_
    refine lv_iconst (v := 1) hx hb dX2_addSight_75 (by decide) ?_
    refine lv_iadd hx hb dX2_addSight_76 ?_
    refine tk_add rfl (show (1 : Int32).toInt = 1 by decide) (by omega) (by omega) (fun v22 h_v22 => ?_)
    refine tk_put (ci := 2) (v := .int v22) (ty := .int) (C := RX2) (T := TX2) (N := 20) (sp := (0, 0, 8, 0)) hx hb htl inX2 tyX2 tyX2_ok nmX2 hown hK hG hS ht_a0 (by decide) tk_no rfl 11 (by decide) (htl _ mw_1489) (fun _ h9 => h9) rfl (tyX2_ok 11 (by decide)) rfl rfl rfl (tk_V0 (by omega) (by omega)) (fun _ h => h) (tk_w.of ht_a0 (by decide) (List.mem_of_getElem? (i := 1) rfl) (Nat.le_refl _) (Nat.le_refl _)) dX2_addSight_77 (fun H locs hG hS hf23 hq9 hj9 => ?_)
    have hj0_0 := hj9 0 _ (by decide) (by decide) hj0_0
    have hj0_1 := hj9 4 _ (by decide) (by decide) hj0_1
    have hj0_2 := hj9 7 _ (by decide) (by decide) hj0_2
    have hj0_4 := hj0_4.kept (hq9 _ (tk_ne ht_ld70 ht_a0 (Or.inl (by decide))))
    have hj0_5 := hj0_5.kept (hq9 _ (tk_ne ht_ld80 ht_a0 (Or.inl (by decide))))
    have hj0_6 := hj0_6.kept (hq9 _ (tk_ne ht_ld90 ht_a0 (Or.inl (by decide))))
    have hj0_7 := hj0_7.kept (hq9 _ (tk_ne ht_ld100 ht_a0 (Or.inl (by decide))))
    have hj0_8 := hj0_8.kept (hq9 _ (tk_ne ht_ld110 ht_a0 (Or.inl (by decide))))
    have hj0_9 := hj0_9.kept (hq9 _ (tk_ne ht_ld120 ht_a0 (Or.inl (by decide))))
    refine lv_aload_n hx hb dX2_addSight_80 rfl (lv_at hl 1 rfl) ?_
    refine tk_getk (ci := 2) (C := RX2) (T := TX2) (N := 20) (sp := (0, 0, 8, 0)) hx hb htl inX2 hown hK hG ht_a0 (by decide) tk_no rfl 11 (by decide) (htl _ mw_1489) (fun _ h9 => h9) rfl hf23 dX2_addSight_81 ?_
    exact tk_iret (v := v22) hx hb hr rfl hlocks (show (n3.toInt ≤ 7 → (-1) * n3.toInt + v22.toInt + (-1) = 0) ∧ (8 ≤ n3.toInt → v22.toInt + 5 = 0) ∧ (0 ≤ v22.toInt → n3.toInt ≤ 7) ∧ (∃ n3x : Int32, jC D ld a0 0 n0 n1 n2 n3x fh fs fk q1 q2 q3 H ∧ (0 ≤ v22.toInt → (-1) * n3.toInt + n3x.toInt + (-1) = 0) ∧ (v22.toInt ≤ (-1) → (-1) * n3.toInt + n3x.toInt = 0)) from ⟨(fun _ => by omega), (fun _ => by omega), (fun _ => by omega), ⟨v22, ⟨hj0_0, hj0_1, hj0_2, hf23, hj0_4, hj0_5, hj0_6, hj0_7, hj0_8, hj0_9⟩, (fun _ => by omega), (fun _ => by omega)⟩⟩) hG hS dX2_addSight_84
  · have hc1 : ¬ (n3.toInt < 8) := fun h9 => c9 ((fi_lt rfl (show (8 : Int32).toInt = 8 by decide)).mpr h9)
    refine lv_bipush (v := (-5)) hx hb dX2_addSight_9 (by decide) ?_
    have hk_m5 : ((-5) : Int32).toInt = (-5) := by decide
    exact tk_iret (v := (-5)) hx hb hr rfl hlocks (show (n3.toInt ≤ 7 → (-1) * n3.toInt + ((-5) : Int32).toInt + (-1) = 0) ∧ (8 ≤ n3.toInt → ((-5) : Int32).toInt + 5 = 0) ∧ (0 ≤ ((-5) : Int32).toInt → n3.toInt ≤ 7) ∧ (∃ n3x : Int32, jC D ld a0 0 n0 n1 n2 n3x fh fs fk q1 q2 q3 H ∧ (0 ≤ ((-5) : Int32).toInt → (-1) * n3.toInt + n3x.toInt + (-1) = 0) ∧ (((-5) : Int32).toInt ≤ (-1) → (-1) * n3.toInt + n3x.toInt = 0)) from ⟨(fun _ => by omega), (fun _ => by omega), (fun _ => by omega), ⟨n3, ⟨hj0_0, hj0_1, hj0_2, hj0_3, hj0_4, hj0_5, hj0_6, hj0_7, hj0_8, hj0_9⟩, (fun _ => by omega), (fun _ => by omega)⟩⟩) hG hS dX2_addSight_11
set_option maxHeartbeats 4000000 in
set_option maxRecDepth 100000 in
theorem k_X12_sight_x (l : Launch) (D : va_G) (cy : Nat → ClassId) (ld : Nat → Nat) (t : tk_T) (a0 : Nat) (p1 : Int32) (p2 : Int32) (p3 : Int32) (p4 : Int32) (p5 : Int32) (g0 : Int32) (g15 : Int32) (n0 n1 n2 n3 : Int32) (fh fs fk q1 q2 q3 : Nat → Int32) (ht_a0 : t a0 = (13, 0, 0)) (ht_ld20 : t (ld 20) = (3, 0, 0)) (ht_ld70 : t (ld 70) = (32, 8, 0)) (ht_ld80 : t (ld 80) = (33, 10, 0)) (ht_ld90 : t (ld 90) = (34, 10, 0)) (ht_ld100 : t (ld 100) = (35, 10, 0)) (ht_ld110 : t (ld 110) = (36, 10, 0)) (ht_ld120 : t (ld 120) = (37, 10, 0)) (hp_0 : 0 ≤ n0.toInt) (hp_1 : n0.toInt ≤ 8) (hp_2 : 0 ≤ n1.toInt) (hp_3 : n1.toInt ≤ 10) (hp_4 : 0 ≤ n2.toInt) (hp_5 : n2.toInt ≤ 10) (hp_6 : 0 ≤ n3.toInt) (hp_7 : n3.toInt ≤ 8) (hp_8 : 0 ≤ g0.toInt) (hp_9 : g0.toInt ≤ 400) (hp_10 : (-2147483648) ≤ g15.toInt) (hp_11 : g15.toInt ≤ 2147483647) : Met l yX12_sight (wl yX12_sight cX12_sight 6 (some .int)) ({ frames := 6, cells := 0, slots := 0, locals := 350 }) (tp D cy ld t [] [.ref a0, .int p1, .int p2, .int p3, .int p4, .int p5] (fun H => tk_f D H a0 12 13 (.int g0) ∧ tk_f D H a0 12 15 (.int g15) ∧ jC D ld (ld 20) 0 n0 n1 n2 n3 fh fs fk q1 q2 q3 H)) (ti D cy ld t [] (fun r H => (p3.toInt ≤ (-1) → r.toInt + 1 = 0) ∧ (12 ≤ p3.toInt → r.toInt + 1 = 0) ∧ (p4.toInt ≤ (-1) → r.toInt + 1 = 0) ∧ (2 ≤ p4.toInt → r.toInt + 1 = 0) ∧ (p5.toInt ≤ (-1) → r.toInt + 1 = 0) ∧ (2 ≤ p5.toInt → r.toInt + 1 = 0) ∧ (0 ≤ p3.toInt → p3.toInt ≤ 11 → 0 ≤ p4.toInt → p4.toInt ≤ 1 → 0 ≤ p5.toInt → p5.toInt ≤ 1 → p1.toInt ≤ (-1) → r.toInt + 2 = 0) ∧ (0 ≤ p3.toInt → p3.toInt ≤ 11 → 0 ≤ p4.toInt → p4.toInt ≤ 1 → 0 ≤ p5.toInt → p5.toInt ≤ 1 → 0 ≤ (-1) * n1.toInt + p1.toInt → r.toInt + 2 = 0) ∧ (0 ≤ p3.toInt → p3.toInt ≤ 11 → 0 ≤ p4.toInt → p4.toInt ≤ 1 → 0 ≤ p5.toInt → p5.toInt ≤ 1 → p2.toInt ≤ (-1) → r.toInt + 2 = 0) ∧ (0 ≤ p3.toInt → p3.toInt ≤ 11 → 0 ≤ p4.toInt → p4.toInt ≤ 1 → 0 ≤ p5.toInt → p5.toInt ≤ 1 → 0 ≤ (-1) * n0.toInt + p2.toInt → r.toInt + 2 = 0) ∧ (0 ≤ p3.toInt → p3.toInt ≤ 11 → 0 ≤ p4.toInt → p4.toInt ≤ 1 → 0 ≤ p5.toInt → p5.toInt ≤ 1 → 0 ≤ p1.toInt → 0 ≤ n1.toInt + (-1) * p1.toInt + (-1) → 0 ≤ p2.toInt → 0 ≤ n0.toInt + (-1) * p2.toInt + (-1) → n3.toInt ≤ 7 → (-1) * n3.toInt + r.toInt + (-1) = 0) ∧ (0 ≤ p3.toInt → p3.toInt ≤ 11 → 0 ≤ p4.toInt → p4.toInt ≤ 1 → 0 ≤ p5.toInt → p5.toInt ≤ 1 → 0 ≤ p1.toInt → 0 ≤ n1.toInt + (-1) * p1.toInt + (-1) → 0 ≤ p2.toInt → 0 ≤ n0.toInt + (-1) * p2.toInt + (-1) → 8 ≤ n3.toInt → r.toInt + 5 = 0) ∧ (0 ≤ r.toInt → n3.toInt ≤ 7) ∧ tk_f D H a0 12 13 (.int g0) ∧ tk_f D H a0 12 15 (.int g15) ∧ (∃ n3x : Int32, jC D ld (ld 20) 0 n0 n1 n2 n3x fh fs fk q1 q2 q3 H ∧ (0 ≤ r.toInt → (-1) * n3.toInt + n3x.toInt + (-1) = 0) ∧ (r.toInt ≤ (-1) → (-1) * n3.toInt + n3x.toInt = 0))) (tk_w t [(13, 0, 0), (20, 0, 0), (24, 0, 0), (3, 0, 0)])) 0 0 (tk_w t [(13, 0, 0), (20, 0, 0), (24, 0, 0), (3, 0, 0)]) := by
  refine tk_met (y := yX12_sight) (cc := cX12_sight) (maxL := 6) (ret := (some .int)) (av := [.ref a0, .int p1, .int p2, .int p3, .int p4, .int p5]) _ _ (by decide) (Nat.le_of_ble_eq_true rfl) ?_
  intro p e s m args below meth c hx hb hr hml hts htl hown hlocks hK H locs hH hG hS hB hZ ls hl
  have hown : s.vm.findClass RX12 = some m.cls := hown
  have hl : lv_has ls 6 [(0, .ref a0), (1, .int p1), (2, .int p2), (3, .int p3), (4, .int p4), (5, .int p5)] := hl
  obtain ⟨hg_0, hg_1, ⟨hj0_0, hj0_1, hj0_2, hj0_3, hj0_4, hj0_5, hj0_6, hj0_7, hj0_8, hj0_9⟩⟩ := hB
  have hr_p1 := tk_rng p1
  have hr_p2 := tk_rng p2
  have hr_p3 := tk_rng p3
  have hr_p4 := tk_rng p4
  have hr_p5 := tk_rng p5
  refine lv_iload_n hx hb dX12_sight_0 rfl (lv_at hl 3 rfl) ?_
  refine lv_iconst (v := 0) hx hb dX12_sight_1 (by decide) ?_
  refine lv_bipush (v := 11) hx hb dX12_sight_2 (by decide) ?_
  have hk_0 : (0 : Int32).toInt = 0 := by decide
  have hk_11 : (11 : Int32).toInt = 11 := by decide
  refine tk_Si (As := [.int p3, .int 0, .int 11]) (rest := []) ⟨hx, hb, hml, hown, hts⟩ hK hG hZ hS (k_X12_within_x l D cy ld t _ p3 0 11) trivial ⟨callB_of 3 hts (wl_in mw_262) rfl rfl rfl (htl _ mw_2) (htl _ mw_277) hd_yX12_within ⟨(Nat.le_of_ble_eq_true rfl), (Nat.le_of_ble_eq_true rfl)⟩, htl _ mw_261⟩ (tk_w.pick [] rfl) rfl hl.1 rfl (Nat.le_of_ble_eq_true rfl) dX12_sight_4 ⟨(Nat.le_of_ble_eq_true rfl), (Nat.le_of_ble_eq_true rfl)⟩ (fun v1 H locs hpo hG hS hq9 => ?_)
  have hg_0 := hg_0.call hq9 tk_w.nil
  have hg_1 := hg_1.call hq9 tk_w.nil
  have hj0_0 := hj0_0.call hq9 tk_w.nil
  have hj0_1 := hj0_1.call hq9 tk_w.nil
  have hj0_2 := hj0_2.call hq9 tk_w.nil
  have hj0_3 := hj0_3.call hq9 tk_w.nil
  have hj0_4 := hj0_4.call hq9 tk_w.nil
  have hj0_5 := hj0_5.call hq9 tk_w.nil
  have hj0_6 := hj0_6.call hq9 tk_w.nil
  have hj0_7 := hj0_7.call hq9 tk_w.nil
  have hj0_8 := hj0_8.call hq9 tk_w.nil
  have hj0_9 := hj0_9.call hq9 tk_w.nil
  obtain ⟨hpo3, hpo4, hpo5, hpo6, hpo7, hpo8⟩ := hpo
  refine lv_if_eq (tgt := 30) hx hb dX12_sight_7 (by decide) (fun c9 => ?_) (fun c9 => ?_)
  · have hc9 : v1.toInt = 0 := (fi_eq rfl (show (0 : Int32).toInt = 0 by decide)).mp c9
    refine lv_aload_n hx hb dX12_sight_30 rfl (lv_at hl 0 rfl) ?_
    refine lv_iconst (v := (-1)) hx hb dX12_sight_31 (by decide) ?_
    have hk_m1 : ((-1) : Int32).toInt = (-1) := by decide
    refine tk_Vi (As := [.int (-1)]) (rest := []) (ci := 12) ⟨hx, hb, hml, hown, hts⟩ hK hG hZ hS (k_X12_refuse_x l D cy ld t a0 (-1) g0 g15 ht_a0 (by omega) (by omega) (by omega) (by omega)) ⟨hg_0, hg_1⟩ ⟨callB_of 1 hts (wl_in mw_275) rfl rfl rfl (htl _ mw_2) (htl _ mw_272) hd_yX12_refuse ⟨(Nat.le_of_ble_eq_true rfl), (Nat.le_of_ble_eq_true rfl)⟩, htl _ mw_273, htl _ mw_274⟩ ht_a0 (by decide) tk_no rfl (tk_w.pick [0, 1] rfl) rfl hl.1 rfl (Nat.le_of_ble_eq_true rfl) dX12_sight_32 ⟨(Nat.le_of_ble_eq_true rfl), (Nat.le_of_ble_eq_true rfl)⟩ (fun v10 H locs hpo hG hS hq9 => ?_)
    have hj0_0 := hj0_0.call hq9 (tk_w.no ht_ld20 (by decide))
    have hj0_1 := hj0_1.call hq9 (tk_w.no ht_ld20 (by decide))
    have hj0_2 := hj0_2.call hq9 (tk_w.no ht_ld20 (by decide))
    have hj0_3 := hj0_3.call hq9 (tk_w.no ht_ld20 (by decide))
    have hj0_4 := hj0_4.call hq9 (tk_w.no ht_ld70 (by decide))
    have hj0_5 := hj0_5.call hq9 (tk_w.no ht_ld80 (by decide))
    have hj0_6 := hj0_6.call hq9 (tk_w.no ht_ld90 (by decide))
    have hj0_7 := hj0_7.call hq9 (tk_w.no ht_ld100 (by decide))
    have hj0_8 := hj0_8.call hq9 (tk_w.no ht_ld110 (by decide))
    have hj0_9 := hj0_9.call hq9 (tk_w.no ht_ld120 (by decide))
    obtain ⟨hpo12, hf13, hf14⟩ := hpo
    exact tk_iret (v := v10) hx hb hr rfl hlocks (show (p3.toInt ≤ (-1) → v10.toInt + 1 = 0) ∧ (12 ≤ p3.toInt → v10.toInt + 1 = 0) ∧ (p4.toInt ≤ (-1) → v10.toInt + 1 = 0) ∧ (2 ≤ p4.toInt → v10.toInt + 1 = 0) ∧ (p5.toInt ≤ (-1) → v10.toInt + 1 = 0) ∧ (2 ≤ p5.toInt → v10.toInt + 1 = 0) ∧ (0 ≤ p3.toInt → p3.toInt ≤ 11 → 0 ≤ p4.toInt → p4.toInt ≤ 1 → 0 ≤ p5.toInt → p5.toInt ≤ 1 → p1.toInt ≤ (-1) → v10.toInt + 2 = 0) ∧ (0 ≤ p3.toInt → p3.toInt ≤ 11 → 0 ≤ p4.toInt → p4.toInt ≤ 1 → 0 ≤ p5.toInt → p5.toInt ≤ 1 → 0 ≤ (-1) * n1.toInt + p1.toInt → v10.toInt + 2 = 0) ∧ (0 ≤ p3.toInt → p3.toInt ≤ 11 → 0 ≤ p4.toInt → p4.toInt ≤ 1 → 0 ≤ p5.toInt → p5.toInt ≤ 1 → p2.toInt ≤ (-1) → v10.toInt + 2 = 0) ∧ (0 ≤ p3.toInt → p3.toInt ≤ 11 → 0 ≤ p4.toInt → p4.toInt ≤ 1 → 0 ≤ p5.toInt → p5.toInt ≤ 1 → 0 ≤ (-1) * n0.toInt + p2.toInt → v10.toInt + 2 = 0) ∧ (0 ≤ p3.toInt → p3.toInt ≤ 11 → 0 ≤ p4.toInt → p4.toInt ≤ 1 → 0 ≤ p5.toInt → p5.toInt ≤ 1 → 0 ≤ p1.toInt → 0 ≤ n1.toInt + (-1) * p1.toInt + (-1) → 0 ≤ p2.toInt → 0 ≤ n0.toInt + (-1) * p2.toInt + (-1) → n3.toInt ≤ 7 → (-1) * n3.toInt + v10.toInt + (-1) = 0) ∧ (0 ≤ p3.toInt → p3.toInt ≤ 11 → 0 ≤ p4.toInt → p4.toInt ≤ 1 → 0 ≤ p5.toInt → p5.toInt ≤ 1 → 0 ≤ p1.toInt → 0 ≤ n1.toInt + (-1) * p1.toInt + (-1) → 0 ≤ p2.toInt → 0 ≤ n0.toInt + (-1) * p2.toInt + (-1) → 8 ≤ n3.toInt → v10.toInt + 5 = 0) ∧ (0 ≤ v10.toInt → n3.toInt ≤ 7) ∧ tk_f D H a0 12 13 (.int g0) ∧ tk_f D H a0 12 15 (.int g15) ∧ (∃ n3x : Int32, jC D ld (ld 20) 0 n0 n1 n2 n3x fh fs fk q1 q2 q3 H ∧ (0 ≤ v10.toInt → (-1) * n3.toInt + n3x.toInt + (-1) = 0) ∧ (v10.toInt ≤ (-1) → (-1) * n3.toInt + n3x.toInt = 0)) from ⟨(fun _ => by omega), (fun _ => by omega), (fun _ => by omega), (fun _ => by omega), (fun _ => by omega), (fun _ => by omega), (fun _ _ _ _ _ _ _ => by omega), (fun _ _ _ _ _ _ _ => by omega), (fun _ _ _ _ _ _ _ => by omega), (fun _ _ _ _ _ _ _ => by omega), (fun _ _ _ _ _ _ _ _ _ _ _ => by omega), (fun _ _ _ _ _ _ _ _ _ _ _ => by omega), (fun _ => by omega), hf13, hf14, ⟨n3, ⟨hj0_0, hj0_1, hj0_2, hj0_3, hj0_4, hj0_5, hj0_6, hj0_7, hj0_8, hj0_9⟩, (fun _ => by omega), (fun _ => by omega)⟩⟩) hG hS dX12_sight_35
  · have hc9 : ¬ (v1.toInt = 0) := fun h9 => c9 ((fi_eq rfl (show (0 : Int32).toInt = 0 by decide)).mpr h9)
    refine lv_iload hx hb dX12_sight_10 (lv_at hl 4 rfl) ?_
    refine lv_iconst (v := 0) hx hb dX12_sight_12 (by decide) ?_
    refine lv_iconst (v := 1) hx hb dX12_sight_13 (by decide) ?_
    have hk_0 : (0 : Int32).toInt = 0 := by decide
    have hk_1 : (1 : Int32).toInt = 1 := by decide
    refine tk_Si (As := [.int p4, .int 0, .int 1]) (rest := []) ⟨hx, hb, hml, hown, hts⟩ hK hG hZ hS (k_X12_within_x l D cy ld t _ p4 0 1) trivial ⟨callB_of 3 hts (wl_in mw_262) rfl rfl rfl (htl _ mw_2) (htl _ mw_277) hd_yX12_within ⟨(Nat.le_of_ble_eq_true rfl), (Nat.le_of_ble_eq_true rfl)⟩, htl _ mw_261⟩ (tk_w.pick [] rfl) rfl hl.1 rfl (Nat.le_of_ble_eq_true rfl) dX12_sight_14 ⟨(Nat.le_of_ble_eq_true rfl), (Nat.le_of_ble_eq_true rfl)⟩ (fun v15 H locs hpo hG hS hq9 => ?_)
    have hg_0 := hg_0.call hq9 tk_w.nil
    have hg_1 := hg_1.call hq9 tk_w.nil
    have hj0_0 := hj0_0.call hq9 tk_w.nil
    have hj0_1 := hj0_1.call hq9 tk_w.nil
    have hj0_2 := hj0_2.call hq9 tk_w.nil
    have hj0_3 := hj0_3.call hq9 tk_w.nil
    have hj0_4 := hj0_4.call hq9 tk_w.nil
    have hj0_5 := hj0_5.call hq9 tk_w.nil
    have hj0_6 := hj0_6.call hq9 tk_w.nil
    have hj0_7 := hj0_7.call hq9 tk_w.nil
    have hj0_8 := hj0_8.call hq9 tk_w.nil
    have hj0_9 := hj0_9.call hq9 tk_w.nil
    obtain ⟨hpo17, hpo18, hpo19, hpo20, hpo21, hpo22⟩ := hpo
    refine lv_if_eq (tgt := 30) hx hb dX12_sight_17 (by decide) (fun c9 => ?_) (fun c9 => ?_)
    · have hc23 : v15.toInt = 0 := (fi_eq rfl (show (0 : Int32).toInt = 0 by decide)).mp c9
      refine lv_aload_n hx hb dX12_sight_30 rfl (lv_at hl 0 rfl) ?_
      refine lv_iconst (v := (-1)) hx hb dX12_sight_31 (by decide) ?_
      have hk_m1 : ((-1) : Int32).toInt = (-1) := by decide
      refine tk_Vi (As := [.int (-1)]) (rest := []) (ci := 12) ⟨hx, hb, hml, hown, hts⟩ hK hG hZ hS (k_X12_refuse_x l D cy ld t a0 (-1) g0 g15 ht_a0 (by omega) (by omega) (by omega) (by omega)) ⟨hg_0, hg_1⟩ ⟨callB_of 1 hts (wl_in mw_275) rfl rfl rfl (htl _ mw_2) (htl _ mw_272) hd_yX12_refuse ⟨(Nat.le_of_ble_eq_true rfl), (Nat.le_of_ble_eq_true rfl)⟩, htl _ mw_273, htl _ mw_274⟩ ht_a0 (by decide) tk_no rfl (tk_w.pick [0, 1] rfl) rfl hl.1 rfl (Nat.le_of_ble_eq_true rfl) dX12_sight_32 ⟨(Nat.le_of_ble_eq_true rfl), (Nat.le_of_ble_eq_true rfl)⟩ (fun v24 H locs hpo hG hS hq9 => ?_)
      have hj0_0 := hj0_0.call hq9 (tk_w.no ht_ld20 (by decide))
      have hj0_1 := hj0_1.call hq9 (tk_w.no ht_ld20 (by decide))
      have hj0_2 := hj0_2.call hq9 (tk_w.no ht_ld20 (by decide))
      have hj0_3 := hj0_3.call hq9 (tk_w.no ht_ld20 (by decide))
      have hj0_4 := hj0_4.call hq9 (tk_w.no ht_ld70 (by decide))
      have hj0_5 := hj0_5.call hq9 (tk_w.no ht_ld80 (by decide))
      have hj0_6 := hj0_6.call hq9 (tk_w.no ht_ld90 (by decide))
      have hj0_7 := hj0_7.call hq9 (tk_w.no ht_ld100 (by decide))
      have hj0_8 := hj0_8.call hq9 (tk_w.no ht_ld110 (by decide))
      have hj0_9 := hj0_9.call hq9 (tk_w.no ht_ld120 (by decide))
      obtain ⟨hpo26, hf27, hf28⟩ := hpo
      exact tk_iret (v := v24) hx hb hr rfl hlocks (show (p3.toInt ≤ (-1) → v24.toInt + 1 = 0) ∧ (12 ≤ p3.toInt → v24.toInt + 1 = 0) ∧ (p4.toInt ≤ (-1) → v24.toInt + 1 = 0) ∧ (2 ≤ p4.toInt → v24.toInt + 1 = 0) ∧ (p5.toInt ≤ (-1) → v24.toInt + 1 = 0) ∧ (2 ≤ p5.toInt → v24.toInt + 1 = 0) ∧ (0 ≤ p3.toInt → p3.toInt ≤ 11 → 0 ≤ p4.toInt → p4.toInt ≤ 1 → 0 ≤ p5.toInt → p5.toInt ≤ 1 → p1.toInt ≤ (-1) → v24.toInt + 2 = 0) ∧ (0 ≤ p3.toInt → p3.toInt ≤ 11 → 0 ≤ p4.toInt → p4.toInt ≤ 1 → 0 ≤ p5.toInt → p5.toInt ≤ 1 → 0 ≤ (-1) * n1.toInt + p1.toInt → v24.toInt + 2 = 0) ∧ (0 ≤ p3.toInt → p3.toInt ≤ 11 → 0 ≤ p4.toInt → p4.toInt ≤ 1 → 0 ≤ p5.toInt → p5.toInt ≤ 1 → p2.toInt ≤ (-1) → v24.toInt + 2 = 0) ∧ (0 ≤ p3.toInt → p3.toInt ≤ 11 → 0 ≤ p4.toInt → p4.toInt ≤ 1 → 0 ≤ p5.toInt → p5.toInt ≤ 1 → 0 ≤ (-1) * n0.toInt + p2.toInt → v24.toInt + 2 = 0) ∧ (0 ≤ p3.toInt → p3.toInt ≤ 11 → 0 ≤ p4.toInt → p4.toInt ≤ 1 → 0 ≤ p5.toInt → p5.toInt ≤ 1 → 0 ≤ p1.toInt → 0 ≤ n1.toInt + (-1) * p1.toInt + (-1) → 0 ≤ p2.toInt → 0 ≤ n0.toInt + (-1) * p2.toInt + (-1) → n3.toInt ≤ 7 → (-1) * n3.toInt + v24.toInt + (-1) = 0) ∧ (0 ≤ p3.toInt → p3.toInt ≤ 11 → 0 ≤ p4.toInt → p4.toInt ≤ 1 → 0 ≤ p5.toInt → p5.toInt ≤ 1 → 0 ≤ p1.toInt → 0 ≤ n1.toInt + (-1) * p1.toInt + (-1) → 0 ≤ p2.toInt → 0 ≤ n0.toInt + (-1) * p2.toInt + (-1) → 8 ≤ n3.toInt → v24.toInt + 5 = 0) ∧ (0 ≤ v24.toInt → n3.toInt ≤ 7) ∧ tk_f D H a0 12 13 (.int g0) ∧ tk_f D H a0 12 15 (.int g15) ∧ (∃ n3x : Int32, jC D ld (ld 20) 0 n0 n1 n2 n3x fh fs fk q1 q2 q3 H ∧ (0 ≤ v24.toInt → (-1) * n3.toInt + n3x.toInt + (-1) = 0) ∧ (v24.toInt ≤ (-1) → (-1) * n3.toInt + n3x.toInt = 0)) from ⟨(fun _ => by omega), (fun _ => by omega), (fun _ => by omega), (fun _ => by omega), (fun _ => by omega), (fun _ => by omega), (fun _ _ _ _ _ _ _ => by omega), (fun _ _ _ _ _ _ _ => by omega), (fun _ _ _ _ _ _ _ => by omega), (fun _ _ _ _ _ _ _ => by omega), (fun _ _ _ _ _ _ _ _ _ _ _ => by omega), (fun _ _ _ _ _ _ _ _ _ _ _ => by omega), (fun _ => by omega), hf27, hf28, ⟨n3, ⟨hj0_0, hj0_1, hj0_2, hj0_3, hj0_4, hj0_5, hj0_6, hj0_7, hj0_8, hj0_9⟩, (fun _ => by omega), (fun _ => by omega)⟩⟩) hG hS dX12_sight_35
    · have hc23 : ¬ (v15.toInt = 0) := fun h9 => c9 ((fi_eq rfl (show (0 : Int32).toInt = 0 by decide)).mpr h9)
      refine lv_iload hx hb dX12_sight_20 (lv_at hl 5 rfl) ?_
      refine lv_iconst (v := 0) hx hb dX12_sight_22 (by decide) ?_
      refine lv_iconst (v := 1) hx hb dX12_sight_23 (by decide) ?_
      have hk_0 : (0 : Int32).toInt = 0 := by decide
      have hk_1 : (1 : Int32).toInt = 1 := by decide
      refine tk_Si (As := [.int p5, .int 0, .int 1]) (rest := []) ⟨hx, hb, hml, hown, hts⟩ hK hG hZ hS (k_X12_within_x l D cy ld t _ p5 0 1) trivial ⟨callB_of 3 hts (wl_in mw_262) rfl rfl rfl (htl _ mw_2) (htl _ mw_277) hd_yX12_within ⟨(Nat.le_of_ble_eq_true rfl), (Nat.le_of_ble_eq_true rfl)⟩, htl _ mw_261⟩ (tk_w.pick [] rfl) rfl hl.1 rfl (Nat.le_of_ble_eq_true rfl) dX12_sight_24 ⟨(Nat.le_of_ble_eq_true rfl), (Nat.le_of_ble_eq_true rfl)⟩ (fun v29 H locs hpo hG hS hq9 => ?_)
      have hg_0 := hg_0.call hq9 tk_w.nil
      have hg_1 := hg_1.call hq9 tk_w.nil
      have hj0_0 := hj0_0.call hq9 tk_w.nil
      have hj0_1 := hj0_1.call hq9 tk_w.nil
      have hj0_2 := hj0_2.call hq9 tk_w.nil
      have hj0_3 := hj0_3.call hq9 tk_w.nil
      have hj0_4 := hj0_4.call hq9 tk_w.nil
      have hj0_5 := hj0_5.call hq9 tk_w.nil
      have hj0_6 := hj0_6.call hq9 tk_w.nil
      have hj0_7 := hj0_7.call hq9 tk_w.nil
      have hj0_8 := hj0_8.call hq9 tk_w.nil
      have hj0_9 := hj0_9.call hq9 tk_w.nil
      obtain ⟨hpo31, hpo32, hpo33, hpo34, hpo35, hpo36⟩ := hpo
      refine lv_if_ne (tgt := 36) hx hb dX12_sight_27 (by decide) (fun c9 => ?_) (fun c9 => ?_)
      · have hc37 : ¬ (v29.toInt = 0) := fun h9 => c9 ((fi_eq rfl (show (0 : Int32).toInt = 0 by decide)).mpr h9)
        refine lv_aload_n hx hb dX12_sight_36 rfl (lv_at hl 0 rfl) ?_
        refine tk_get (ci := 12) (C := RX12) (T := TX12) (N := 17) (sp := (8, 20, 3, 0)) hx hb htl inX12 hown hK hG ht_a0 (by decide) tk_no rfl 0 (by decide) (htl _ mw_15) (fun _ h9 => h9) rfl dX12_sight_37 (fun v9 hf38 hV9 => ?_)
        obtain ⟨rfl, ht_ld20⟩ := hV9
        have ht_ld20 : t (ld 20) = (3, 0, 0) := ht_ld20
        refine fx_top (v := .ref (ld 20)) rfl ?_
        refine lv_iload_n hx hb dX12_sight_40 rfl (lv_at hl 1 rfl) ?_
        refine tk_Vi (As := [.int p1]) (rest := []) (ci := 2) ⟨hx, hb, hml, hown, hts⟩ hK hG hZ hS (k_X2_isVerse_x_x l D cy ld t (ld 20) p1 n1 ht_ld20 (by omega) (by omega)) hj0_1 ⟨callB_of 1 hts (wl_in mw_352) rfl rfl rfl (htl _ mw_14) (htl _ mw_349) hd_yX2_isVerse ⟨(Nat.le_of_ble_eq_true rfl), (Nat.le_of_ble_eq_true rfl)⟩, htl _ mw_350, htl _ mw_351⟩ ht_ld20 (by decide) tk_no rfl (tk_w.pick [] rfl) rfl hl.1 rfl (Nat.le_of_ble_eq_true rfl) dX12_sight_41 ⟨(Nat.le_of_ble_eq_true rfl), (Nat.le_of_ble_eq_true rfl)⟩ (fun v39 H locs hpo hG hS hq9 => ?_)
        have hg_0 := hg_0.call hq9 tk_w.nil
        have hg_1 := hg_1.call hq9 tk_w.nil
        have hj0_0 := hj0_0.call hq9 tk_w.nil
        have hj0_1 := hj0_1.call hq9 tk_w.nil
        have hj0_2 := hj0_2.call hq9 tk_w.nil
        have hj0_3 := hj0_3.call hq9 tk_w.nil
        have hj0_4 := hj0_4.call hq9 tk_w.nil
        have hj0_5 := hj0_5.call hq9 tk_w.nil
        have hj0_6 := hj0_6.call hq9 tk_w.nil
        have hj0_7 := hj0_7.call hq9 tk_w.nil
        have hj0_8 := hj0_8.call hq9 tk_w.nil
        have hj0_9 := hj0_9.call hq9 tk_w.nil
        obtain ⟨hpo41, hpo42, hpo43, hpo44, hpo45, hpo46⟩ := hpo
        refine lv_if_eq (tgt := 58) hx hb dX12_sight_44 (by decide) (fun c9 => ?_) (fun c9 => ?_)
        · have hc47 : v39.toInt = 0 := (fi_eq rfl (show (0 : Int32).toInt = 0 by decide)).mp c9
          refine lv_aload_n hx hb dX12_sight_58 rfl (lv_at hl 0 rfl) ?_
          refine lv_bipush (v := (-2)) hx hb dX12_sight_59 (by decide) ?_
          have hk_m2 : ((-2) : Int32).toInt = (-2) := by decide
          refine tk_Vi (As := [.int (-2)]) (rest := []) (ci := 12) ⟨hx, hb, hml, hown, hts⟩ hK hG hZ hS (k_X12_refuse_x l D cy ld t a0 (-2) g0 g15 ht_a0 (by omega) (by omega) (by omega) (by omega)) ⟨hg_0, hg_1⟩ ⟨callB_of 1 hts (wl_in mw_275) rfl rfl rfl (htl _ mw_2) (htl _ mw_272) hd_yX12_refuse ⟨(Nat.le_of_ble_eq_true rfl), (Nat.le_of_ble_eq_true rfl)⟩, htl _ mw_273, htl _ mw_274⟩ ht_a0 (by decide) tk_no rfl (tk_w.pick [0, 1] rfl) rfl hl.1 rfl (Nat.le_of_ble_eq_true rfl) dX12_sight_61 ⟨(Nat.le_of_ble_eq_true rfl), (Nat.le_of_ble_eq_true rfl)⟩ (fun v48 H locs hpo hG hS hq9 => ?_)
          have hj0_0 := hj0_0.call hq9 (tk_w.no ht_ld20 (by decide))
          have hj0_1 := hj0_1.call hq9 (tk_w.no ht_ld20 (by decide))
          have hj0_2 := hj0_2.call hq9 (tk_w.no ht_ld20 (by decide))
          have hj0_3 := hj0_3.call hq9 (tk_w.no ht_ld20 (by decide))
          have hj0_4 := hj0_4.call hq9 (tk_w.no ht_ld70 (by decide))
          have hj0_5 := hj0_5.call hq9 (tk_w.no ht_ld80 (by decide))
          have hj0_6 := hj0_6.call hq9 (tk_w.no ht_ld90 (by decide))
          have hj0_7 := hj0_7.call hq9 (tk_w.no ht_ld100 (by decide))
          have hj0_8 := hj0_8.call hq9 (tk_w.no ht_ld110 (by decide))
          have hj0_9 := hj0_9.call hq9 (tk_w.no ht_ld120 (by decide))
          obtain ⟨hpo50, hf51, hf52⟩ := hpo
          exact tk_iret (v := v48) hx hb hr rfl hlocks (show (p3.toInt ≤ (-1) → v48.toInt + 1 = 0) ∧ (12 ≤ p3.toInt → v48.toInt + 1 = 0) ∧ (p4.toInt ≤ (-1) → v48.toInt + 1 = 0) ∧ (2 ≤ p4.toInt → v48.toInt + 1 = 0) ∧ (p5.toInt ≤ (-1) → v48.toInt + 1 = 0) ∧ (2 ≤ p5.toInt → v48.toInt + 1 = 0) ∧ (0 ≤ p3.toInt → p3.toInt ≤ 11 → 0 ≤ p4.toInt → p4.toInt ≤ 1 → 0 ≤ p5.toInt → p5.toInt ≤ 1 → p1.toInt ≤ (-1) → v48.toInt + 2 = 0) ∧ (0 ≤ p3.toInt → p3.toInt ≤ 11 → 0 ≤ p4.toInt → p4.toInt ≤ 1 → 0 ≤ p5.toInt → p5.toInt ≤ 1 → 0 ≤ (-1) * n1.toInt + p1.toInt → v48.toInt + 2 = 0) ∧ (0 ≤ p3.toInt → p3.toInt ≤ 11 → 0 ≤ p4.toInt → p4.toInt ≤ 1 → 0 ≤ p5.toInt → p5.toInt ≤ 1 → p2.toInt ≤ (-1) → v48.toInt + 2 = 0) ∧ (0 ≤ p3.toInt → p3.toInt ≤ 11 → 0 ≤ p4.toInt → p4.toInt ≤ 1 → 0 ≤ p5.toInt → p5.toInt ≤ 1 → 0 ≤ (-1) * n0.toInt + p2.toInt → v48.toInt + 2 = 0) ∧ (0 ≤ p3.toInt → p3.toInt ≤ 11 → 0 ≤ p4.toInt → p4.toInt ≤ 1 → 0 ≤ p5.toInt → p5.toInt ≤ 1 → 0 ≤ p1.toInt → 0 ≤ n1.toInt + (-1) * p1.toInt + (-1) → 0 ≤ p2.toInt → 0 ≤ n0.toInt + (-1) * p2.toInt + (-1) → n3.toInt ≤ 7 → (-1) * n3.toInt + v48.toInt + (-1) = 0) ∧ (0 ≤ p3.toInt → p3.toInt ≤ 11 → 0 ≤ p4.toInt → p4.toInt ≤ 1 → 0 ≤ p5.toInt → p5.toInt ≤ 1 → 0 ≤ p1.toInt → 0 ≤ n1.toInt + (-1) * p1.toInt + (-1) → 0 ≤ p2.toInt → 0 ≤ n0.toInt + (-1) * p2.toInt + (-1) → 8 ≤ n3.toInt → v48.toInt + 5 = 0) ∧ (0 ≤ v48.toInt → n3.toInt ≤ 7) ∧ tk_f D H a0 12 13 (.int g0) ∧ tk_f D H a0 12 15 (.int g15) ∧ (∃ n3x : Int32, jC D ld (ld 20) 0 n0 n1 n2 n3x fh fs fk q1 q2 q3 H ∧ (0 ≤ v48.toInt → (-1) * n3.toInt + n3x.toInt + (-1) = 0) ∧ (v48.toInt ≤ (-1) → (-1) * n3.toInt + n3x.toInt = 0)) from ⟨(fun _ => by omega), (fun _ => by omega), (fun _ => by omega), (fun _ => by omega), (fun _ => by omega), (fun _ => by omega), (fun _ _ _ _ _ _ _ => by omega), (fun _ _ _ _ _ _ _ => by omega), (fun _ _ _ _ _ _ _ => by omega), (fun _ _ _ _ _ _ _ => by omega), (fun _ _ _ _ _ _ _ _ _ _ _ => by omega), (fun _ _ _ _ _ _ _ _ _ _ _ => by omega), (fun _ => by omega), hf51, hf52, ⟨n3, ⟨hj0_0, hj0_1, hj0_2, hj0_3, hj0_4, hj0_5, hj0_6, hj0_7, hj0_8, hj0_9⟩, (fun _ => by omega), (fun _ => by omega)⟩⟩) hG hS dX12_sight_64
        · have hc47 : ¬ (v39.toInt = 0) := fun h9 => c9 ((fi_eq rfl (show (0 : Int32).toInt = 0 by decide)).mpr h9)
          refine lv_aload_n hx hb dX12_sight_47 rfl (lv_at hl 0 rfl) ?_
          refine tk_get (ci := 12) (C := RX12) (T := TX12) (N := 17) (sp := (8, 20, 3, 0)) hx hb htl inX12 hown hK hG ht_a0 (by decide) tk_no rfl 0 (by decide) (htl _ mw_15) (fun _ h9 => h9) rfl dX12_sight_48 (fun v9 hf53 hV9 => ?_)
          obtain ⟨rfl, ht_ld20⟩ := hV9
          have ht_ld20 : t (ld 20) = (3, 0, 0) := ht_ld20
          refine fx_top (v := .ref (ld 20)) rfl ?_
          refine lv_iload_n hx hb dX12_sight_51 rfl (lv_at hl 2 rfl) ?_
          refine tk_Vi (As := [.int p2]) (rest := []) (ci := 2) ⟨hx, hb, hml, hown, hts⟩ hK hG hZ hS (k_X2_isSinger_x_x l D cy ld t (ld 20) p2 n0 ht_ld20 (by omega) (by omega)) hj0_0 ⟨callB_of 1 hts (wl_in mw_311) rfl rfl rfl (htl _ mw_14) (htl _ mw_308) hd_yX2_isSinger ⟨(Nat.le_of_ble_eq_true rfl), (Nat.le_of_ble_eq_true rfl)⟩, htl _ mw_309, htl _ mw_310⟩ ht_ld20 (by decide) tk_no rfl (tk_w.pick [] rfl) rfl hl.1 rfl (Nat.le_of_ble_eq_true rfl) dX12_sight_52 ⟨(Nat.le_of_ble_eq_true rfl), (Nat.le_of_ble_eq_true rfl)⟩ (fun v54 H locs hpo hG hS hq9 => ?_)
          have hg_0 := hg_0.call hq9 tk_w.nil
          have hg_1 := hg_1.call hq9 tk_w.nil
          have hj0_0 := hj0_0.call hq9 tk_w.nil
          have hj0_1 := hj0_1.call hq9 tk_w.nil
          have hj0_2 := hj0_2.call hq9 tk_w.nil
          have hj0_3 := hj0_3.call hq9 tk_w.nil
          have hj0_4 := hj0_4.call hq9 tk_w.nil
          have hj0_5 := hj0_5.call hq9 tk_w.nil
          have hj0_6 := hj0_6.call hq9 tk_w.nil
          have hj0_7 := hj0_7.call hq9 tk_w.nil
          have hj0_8 := hj0_8.call hq9 tk_w.nil
          have hj0_9 := hj0_9.call hq9 tk_w.nil
          obtain ⟨hpo56, hpo57, hpo58, hpo59, hpo60, hpo61⟩ := hpo
          refine lv_if_ne (tgt := 65) hx hb dX12_sight_55 (by decide) (fun c9 => ?_) (fun c9 => ?_)
          · have hc62 : ¬ (v54.toInt = 0) := fun h9 => c9 ((fi_eq rfl (show (0 : Int32).toInt = 0 by decide)).mpr h9)
            refine lv_aload_n hx hb dX12_sight_65 rfl (lv_at hl 0 rfl) ?_
            refine lv_aload_n hx hb dX12_sight_66 rfl (lv_at hl 0 rfl) ?_
            refine tk_get (ci := 12) (C := RX12) (T := TX12) (N := 17) (sp := (8, 20, 3, 0)) hx hb htl inX12 hown hK hG ht_a0 (by decide) tk_no rfl 0 (by decide) (htl _ mw_15) (fun _ h9 => h9) rfl dX12_sight_67 (fun v9 hf63 hV9 => ?_)
            obtain ⟨rfl, ht_ld20⟩ := hV9
            have ht_ld20 : t (ld 20) = (3, 0, 0) := ht_ld20
            refine fx_top (v := .ref (ld 20)) rfl ?_
            refine lv_iload_n hx hb dX12_sight_70 rfl (lv_at hl 1 rfl) ?_
            refine lv_iload_n hx hb dX12_sight_71 rfl (lv_at hl 2 rfl) ?_
            refine lv_iload_n hx hb dX12_sight_72 rfl (lv_at hl 3 rfl) ?_
            refine lv_iload hx hb dX12_sight_73 (lv_at hl 4 rfl) ?_
            refine lv_iload hx hb dX12_sight_75 (lv_at hl 5 rfl) ?_
            refine tk_Vi (As := [.int p1, .int p2, .int p3, .int p4, .int p5]) (rest := [.ref a0]) (ci := 2) ⟨hx, hb, hml, hown, hts⟩ hK hG hZ hS (k_X2_addSight_x l D cy ld t (ld 20) p1 p2 p3 p4 p5 n0 n1 n2 n3 fh fs fk q1 q2 q3 ht_ld20 ht_ld70 ht_ld80 ht_ld90 ht_ld100 ht_ld110 ht_ld120 (by omega) (by omega) (by omega) (by omega) (by omega) (by omega) (by omega) (by omega) (by omega) (by omega) (by omega) (by omega) (by omega) (by omega) (by omega) (by omega) (by omega) (by omega)) ⟨hj0_0, hj0_1, hj0_2, hj0_3, hj0_4, hj0_5, hj0_6, hj0_7, hj0_8, hj0_9⟩ ⟨callB_of 5 hts (wl_in mw_1488) rfl rfl rfl (htl _ mw_14) (htl _ mw_1485) hd_yX2_addSight ⟨(Nat.le_of_ble_eq_true rfl), (Nat.le_of_ble_eq_true rfl)⟩, htl _ mw_1486, htl _ mw_1487⟩ ht_ld20 (by decide) tk_no rfl (tk_w.pick [2, 3] rfl) rfl hl.1 rfl (Nat.le_of_ble_eq_true rfl) dX12_sight_77 ⟨(Nat.le_of_ble_eq_true rfl), (Nat.le_of_ble_eq_true rfl)⟩ (fun v64 H locs hpo hG hS hq9 => ?_)
            have hg_0 := hg_0.call hq9 (tk_w.no ht_a0 (by decide))
            have hg_1 := hg_1.call hq9 (tk_w.no ht_a0 (by decide))
            have hj0_4 := hj0_4.call hq9 (tk_w.no ht_ld70 (by decide))
            have hj0_5 := hj0_5.call hq9 (tk_w.no ht_ld80 (by decide))
            have hj0_6 := hj0_6.call hq9 (tk_w.no ht_ld90 (by decide))
            have hj0_7 := hj0_7.call hq9 (tk_w.no ht_ld100 (by decide))
            have hj0_8 := hj0_8.call hq9 (tk_w.no ht_ld110 (by decide))
            have hj0_9 := hj0_9.call hq9 (tk_w.no ht_ld120 (by decide))
            obtain ⟨hpo66, hpo67, hpo68, ⟨v73, ⟨hj69, hj70, hj71, hj72, hj74, hj75, hj76, hj77, hj78, hj79⟩, hpo80, hpo81⟩⟩ := hpo
            have hq_v73 := tk_rng v73
            refine tk_Vi (As := [.int v64]) (rest := []) (ci := 12) ⟨hx, hb, hml, hown, hts⟩ hK hG hZ hS (k_X12_tell_x l D cy ld t a0 v64 g0 g15 ht_a0 (by omega) (by omega) (by omega) (by omega)) ⟨hg_0, hg_1⟩ ⟨callB_of 1 hts (wl_in mw_271) rfl rfl rfl (htl _ mw_2) (htl _ mw_268) hd_yX12_tell ⟨(Nat.le_of_ble_eq_true rfl), (Nat.le_of_ble_eq_true rfl)⟩, htl _ mw_269, htl _ mw_270⟩ ht_a0 (by decide) tk_no rfl (tk_w.pick [0, 1] rfl) rfl hl.1 rfl (Nat.le_of_ble_eq_true rfl) dX12_sight_80 ⟨(Nat.le_of_ble_eq_true rfl), (Nat.le_of_ble_eq_true rfl)⟩ (fun v82 H locs hpo hG hS hq9 => ?_)
            have hj74 := hj74.call hq9 (tk_w.no ht_ld70 (by decide))
            have hj75 := hj75.call hq9 (tk_w.no ht_ld80 (by decide))
            have hj76 := hj76.call hq9 (tk_w.no ht_ld90 (by decide))
            have hj77 := hj77.call hq9 (tk_w.no ht_ld100 (by decide))
            have hj78 := hj78.call hq9 (tk_w.no ht_ld110 (by decide))
            have hj79 := hj79.call hq9 (tk_w.no ht_ld120 (by decide))
            have hj69 := hj69.call hq9 (tk_w.no ht_ld20 (by decide))
            have hj70 := hj70.call hq9 (tk_w.no ht_ld20 (by decide))
            have hj71 := hj71.call hq9 (tk_w.no ht_ld20 (by decide))
            have hj72 := hj72.call hq9 (tk_w.no ht_ld20 (by decide))
            obtain ⟨hpo84, hf85, hf86⟩ := hpo
            exact tk_iret (v := v82) hx hb hr rfl hlocks (show (p3.toInt ≤ (-1) → v82.toInt + 1 = 0) ∧ (12 ≤ p3.toInt → v82.toInt + 1 = 0) ∧ (p4.toInt ≤ (-1) → v82.toInt + 1 = 0) ∧ (2 ≤ p4.toInt → v82.toInt + 1 = 0) ∧ (p5.toInt ≤ (-1) → v82.toInt + 1 = 0) ∧ (2 ≤ p5.toInt → v82.toInt + 1 = 0) ∧ (0 ≤ p3.toInt → p3.toInt ≤ 11 → 0 ≤ p4.toInt → p4.toInt ≤ 1 → 0 ≤ p5.toInt → p5.toInt ≤ 1 → p1.toInt ≤ (-1) → v82.toInt + 2 = 0) ∧ (0 ≤ p3.toInt → p3.toInt ≤ 11 → 0 ≤ p4.toInt → p4.toInt ≤ 1 → 0 ≤ p5.toInt → p5.toInt ≤ 1 → 0 ≤ (-1) * n1.toInt + p1.toInt → v82.toInt + 2 = 0) ∧ (0 ≤ p3.toInt → p3.toInt ≤ 11 → 0 ≤ p4.toInt → p4.toInt ≤ 1 → 0 ≤ p5.toInt → p5.toInt ≤ 1 → p2.toInt ≤ (-1) → v82.toInt + 2 = 0) ∧ (0 ≤ p3.toInt → p3.toInt ≤ 11 → 0 ≤ p4.toInt → p4.toInt ≤ 1 → 0 ≤ p5.toInt → p5.toInt ≤ 1 → 0 ≤ (-1) * n0.toInt + p2.toInt → v82.toInt + 2 = 0) ∧ (0 ≤ p3.toInt → p3.toInt ≤ 11 → 0 ≤ p4.toInt → p4.toInt ≤ 1 → 0 ≤ p5.toInt → p5.toInt ≤ 1 → 0 ≤ p1.toInt → 0 ≤ n1.toInt + (-1) * p1.toInt + (-1) → 0 ≤ p2.toInt → 0 ≤ n0.toInt + (-1) * p2.toInt + (-1) → n3.toInt ≤ 7 → (-1) * n3.toInt + v82.toInt + (-1) = 0) ∧ (0 ≤ p3.toInt → p3.toInt ≤ 11 → 0 ≤ p4.toInt → p4.toInt ≤ 1 → 0 ≤ p5.toInt → p5.toInt ≤ 1 → 0 ≤ p1.toInt → 0 ≤ n1.toInt + (-1) * p1.toInt + (-1) → 0 ≤ p2.toInt → 0 ≤ n0.toInt + (-1) * p2.toInt + (-1) → 8 ≤ n3.toInt → v82.toInt + 5 = 0) ∧ (0 ≤ v82.toInt → n3.toInt ≤ 7) ∧ tk_f D H a0 12 13 (.int g0) ∧ tk_f D H a0 12 15 (.int g15) ∧ (∃ n3x : Int32, jC D ld (ld 20) 0 n0 n1 n2 n3x fh fs fk q1 q2 q3 H ∧ (0 ≤ v82.toInt → (-1) * n3.toInt + n3x.toInt + (-1) = 0) ∧ (v82.toInt ≤ (-1) → (-1) * n3.toInt + n3x.toInt = 0)) from ⟨(fun _ => by omega), (fun _ => by omega), (fun _ => by omega), (fun _ => by omega), (fun _ => by omega), (fun _ => by omega), (fun _ _ _ _ _ _ _ => by omega), (fun _ _ _ _ _ _ _ => by omega), (fun _ _ _ _ _ _ _ => by omega), (fun _ _ _ _ _ _ _ => by omega), (fun _ _ _ _ _ _ _ _ _ _ _ => by omega), (fun _ _ _ _ _ _ _ _ _ _ _ => by omega), (fun _ => by omega), hf85, hf86, ⟨v73, ⟨hj69, hj70, hj71, hj72, hj74, hj75, hj76, hj77, hj78, hj79⟩, (fun _ => by omega), (fun _ => by omega)⟩⟩) hG hS dX12_sight_83
          · have hc62 : v54.toInt = 0 := (fi_eq rfl (show (0 : Int32).toInt = 0 by decide)).mp c9
            refine lv_aload_n hx hb dX12_sight_58 rfl (lv_at hl 0 rfl) ?_
            refine lv_bipush (v := (-2)) hx hb dX12_sight_59 (by decide) ?_
            have hk_m2 : ((-2) : Int32).toInt = (-2) := by decide
            refine tk_Vi (As := [.int (-2)]) (rest := []) (ci := 12) ⟨hx, hb, hml, hown, hts⟩ hK hG hZ hS (k_X12_refuse_x l D cy ld t a0 (-2) g0 g15 ht_a0 (by omega) (by omega) (by omega) (by omega)) ⟨hg_0, hg_1⟩ ⟨callB_of 1 hts (wl_in mw_275) rfl rfl rfl (htl _ mw_2) (htl _ mw_272) hd_yX12_refuse ⟨(Nat.le_of_ble_eq_true rfl), (Nat.le_of_ble_eq_true rfl)⟩, htl _ mw_273, htl _ mw_274⟩ ht_a0 (by decide) tk_no rfl (tk_w.pick [0, 1] rfl) rfl hl.1 rfl (Nat.le_of_ble_eq_true rfl) dX12_sight_61 ⟨(Nat.le_of_ble_eq_true rfl), (Nat.le_of_ble_eq_true rfl)⟩ (fun v87 H locs hpo hG hS hq9 => ?_)
            have hj0_0 := hj0_0.call hq9 (tk_w.no ht_ld20 (by decide))
            have hj0_1 := hj0_1.call hq9 (tk_w.no ht_ld20 (by decide))
            have hj0_2 := hj0_2.call hq9 (tk_w.no ht_ld20 (by decide))
            have hj0_3 := hj0_3.call hq9 (tk_w.no ht_ld20 (by decide))
            have hj0_4 := hj0_4.call hq9 (tk_w.no ht_ld70 (by decide))
            have hj0_5 := hj0_5.call hq9 (tk_w.no ht_ld80 (by decide))
            have hj0_6 := hj0_6.call hq9 (tk_w.no ht_ld90 (by decide))
            have hj0_7 := hj0_7.call hq9 (tk_w.no ht_ld100 (by decide))
            have hj0_8 := hj0_8.call hq9 (tk_w.no ht_ld110 (by decide))
            have hj0_9 := hj0_9.call hq9 (tk_w.no ht_ld120 (by decide))
            obtain ⟨hpo89, hf90, hf91⟩ := hpo
            exact tk_iret (v := v87) hx hb hr rfl hlocks (show (p3.toInt ≤ (-1) → v87.toInt + 1 = 0) ∧ (12 ≤ p3.toInt → v87.toInt + 1 = 0) ∧ (p4.toInt ≤ (-1) → v87.toInt + 1 = 0) ∧ (2 ≤ p4.toInt → v87.toInt + 1 = 0) ∧ (p5.toInt ≤ (-1) → v87.toInt + 1 = 0) ∧ (2 ≤ p5.toInt → v87.toInt + 1 = 0) ∧ (0 ≤ p3.toInt → p3.toInt ≤ 11 → 0 ≤ p4.toInt → p4.toInt ≤ 1 → 0 ≤ p5.toInt → p5.toInt ≤ 1 → p1.toInt ≤ (-1) → v87.toInt + 2 = 0) ∧ (0 ≤ p3.toInt → p3.toInt ≤ 11 → 0 ≤ p4.toInt → p4.toInt ≤ 1 → 0 ≤ p5.toInt → p5.toInt ≤ 1 → 0 ≤ (-1) * n1.toInt + p1.toInt → v87.toInt + 2 = 0) ∧ (0 ≤ p3.toInt → p3.toInt ≤ 11 → 0 ≤ p4.toInt → p4.toInt ≤ 1 → 0 ≤ p5.toInt → p5.toInt ≤ 1 → p2.toInt ≤ (-1) → v87.toInt + 2 = 0) ∧ (0 ≤ p3.toInt → p3.toInt ≤ 11 → 0 ≤ p4.toInt → p4.toInt ≤ 1 → 0 ≤ p5.toInt → p5.toInt ≤ 1 → 0 ≤ (-1) * n0.toInt + p2.toInt → v87.toInt + 2 = 0) ∧ (0 ≤ p3.toInt → p3.toInt ≤ 11 → 0 ≤ p4.toInt → p4.toInt ≤ 1 → 0 ≤ p5.toInt → p5.toInt ≤ 1 → 0 ≤ p1.toInt → 0 ≤ n1.toInt + (-1) * p1.toInt + (-1) → 0 ≤ p2.toInt → 0 ≤ n0.toInt + (-1) * p2.toInt + (-1) → n3.toInt ≤ 7 → (-1) * n3.toInt + v87.toInt + (-1) = 0) ∧ (0 ≤ p3.toInt → p3.toInt ≤ 11 → 0 ≤ p4.toInt → p4.toInt ≤ 1 → 0 ≤ p5.toInt → p5.toInt ≤ 1 → 0 ≤ p1.toInt → 0 ≤ n1.toInt + (-1) * p1.toInt + (-1) → 0 ≤ p2.toInt → 0 ≤ n0.toInt + (-1) * p2.toInt + (-1) → 8 ≤ n3.toInt → v87.toInt + 5 = 0) ∧ (0 ≤ v87.toInt → n3.toInt ≤ 7) ∧ tk_f D H a0 12 13 (.int g0) ∧ tk_f D H a0 12 15 (.int g15) ∧ (∃ n3x : Int32, jC D ld (ld 20) 0 n0 n1 n2 n3x fh fs fk q1 q2 q3 H ∧ (0 ≤ v87.toInt → (-1) * n3.toInt + n3x.toInt + (-1) = 0) ∧ (v87.toInt ≤ (-1) → (-1) * n3.toInt + n3x.toInt = 0)) from ⟨(fun _ => by omega), (fun _ => by omega), (fun _ => by omega), (fun _ => by omega), (fun _ => by omega), (fun _ => by omega), (fun _ _ _ _ _ _ _ => by omega), (fun _ _ _ _ _ _ _ => by omega), (fun _ _ _ _ _ _ _ => by omega), (fun _ _ _ _ _ _ _ => by omega), (fun _ _ _ _ _ _ _ _ _ _ _ => by omega), (fun _ _ _ _ _ _ _ _ _ _ _ => by omega), (fun _ => by omega), hf90, hf91, ⟨n3, ⟨hj0_0, hj0_1, hj0_2, hj0_3, hj0_4, hj0_5, hj0_6, hj0_7, hj0_8, hj0_9⟩, (fun _ => by omega), (fun _ => by omega)⟩⟩) hG hS dX12_sight_64
      · have hc37 : v29.toInt = 0 := (fi_eq rfl (show (0 : Int32).toInt = 0 by decide)).mp c9
        refine lv_aload_n hx hb dX12_sight_30 rfl (lv_at hl 0 rfl) ?_
        refine lv_iconst (v := (-1)) hx hb dX12_sight_31 (by decide) ?_
        have hk_m1 : ((-1) : Int32).toInt = (-1) := by decide
        refine tk_Vi (As := [.int (-1)]) (rest := []) (ci := 12) ⟨hx, hb, hml, hown, hts⟩ hK hG hZ hS (k_X12_refuse_x l D cy ld t a0 (-1) g0 g15 ht_a0 (by omega) (by omega) (by omega) (by omega)) ⟨hg_0, hg_1⟩ ⟨callB_of 1 hts (wl_in mw_275) rfl rfl rfl (htl _ mw_2) (htl _ mw_272) hd_yX12_refuse ⟨(Nat.le_of_ble_eq_true rfl), (Nat.le_of_ble_eq_true rfl)⟩, htl _ mw_273, htl _ mw_274⟩ ht_a0 (by decide) tk_no rfl (tk_w.pick [0, 1] rfl) rfl hl.1 rfl (Nat.le_of_ble_eq_true rfl) dX12_sight_32 ⟨(Nat.le_of_ble_eq_true rfl), (Nat.le_of_ble_eq_true rfl)⟩ (fun v92 H locs hpo hG hS hq9 => ?_)
        have hj0_0 := hj0_0.call hq9 (tk_w.no ht_ld20 (by decide))
        have hj0_1 := hj0_1.call hq9 (tk_w.no ht_ld20 (by decide))
        have hj0_2 := hj0_2.call hq9 (tk_w.no ht_ld20 (by decide))
        have hj0_3 := hj0_3.call hq9 (tk_w.no ht_ld20 (by decide))
        have hj0_4 := hj0_4.call hq9 (tk_w.no ht_ld70 (by decide))
        have hj0_5 := hj0_5.call hq9 (tk_w.no ht_ld80 (by decide))
        have hj0_6 := hj0_6.call hq9 (tk_w.no ht_ld90 (by decide))
        have hj0_7 := hj0_7.call hq9 (tk_w.no ht_ld100 (by decide))
        have hj0_8 := hj0_8.call hq9 (tk_w.no ht_ld110 (by decide))
        have hj0_9 := hj0_9.call hq9 (tk_w.no ht_ld120 (by decide))
        obtain ⟨hpo94, hf95, hf96⟩ := hpo
        exact tk_iret (v := v92) hx hb hr rfl hlocks (show (p3.toInt ≤ (-1) → v92.toInt + 1 = 0) ∧ (12 ≤ p3.toInt → v92.toInt + 1 = 0) ∧ (p4.toInt ≤ (-1) → v92.toInt + 1 = 0) ∧ (2 ≤ p4.toInt → v92.toInt + 1 = 0) ∧ (p5.toInt ≤ (-1) → v92.toInt + 1 = 0) ∧ (2 ≤ p5.toInt → v92.toInt + 1 = 0) ∧ (0 ≤ p3.toInt → p3.toInt ≤ 11 → 0 ≤ p4.toInt → p4.toInt ≤ 1 → 0 ≤ p5.toInt → p5.toInt ≤ 1 → p1.toInt ≤ (-1) → v92.toInt + 2 = 0) ∧ (0 ≤ p3.toInt → p3.toInt ≤ 11 → 0 ≤ p4.toInt → p4.toInt ≤ 1 → 0 ≤ p5.toInt → p5.toInt ≤ 1 → 0 ≤ (-1) * n1.toInt + p1.toInt → v92.toInt + 2 = 0) ∧ (0 ≤ p3.toInt → p3.toInt ≤ 11 → 0 ≤ p4.toInt → p4.toInt ≤ 1 → 0 ≤ p5.toInt → p5.toInt ≤ 1 → p2.toInt ≤ (-1) → v92.toInt + 2 = 0) ∧ (0 ≤ p3.toInt → p3.toInt ≤ 11 → 0 ≤ p4.toInt → p4.toInt ≤ 1 → 0 ≤ p5.toInt → p5.toInt ≤ 1 → 0 ≤ (-1) * n0.toInt + p2.toInt → v92.toInt + 2 = 0) ∧ (0 ≤ p3.toInt → p3.toInt ≤ 11 → 0 ≤ p4.toInt → p4.toInt ≤ 1 → 0 ≤ p5.toInt → p5.toInt ≤ 1 → 0 ≤ p1.toInt → 0 ≤ n1.toInt + (-1) * p1.toInt + (-1) → 0 ≤ p2.toInt → 0 ≤ n0.toInt + (-1) * p2.toInt + (-1) → n3.toInt ≤ 7 → (-1) * n3.toInt + v92.toInt + (-1) = 0) ∧ (0 ≤ p3.toInt → p3.toInt ≤ 11 → 0 ≤ p4.toInt → p4.toInt ≤ 1 → 0 ≤ p5.toInt → p5.toInt ≤ 1 → 0 ≤ p1.toInt → 0 ≤ n1.toInt + (-1) * p1.toInt + (-1) → 0 ≤ p2.toInt → 0 ≤ n0.toInt + (-1) * p2.toInt + (-1) → 8 ≤ n3.toInt → v92.toInt + 5 = 0) ∧ (0 ≤ v92.toInt → n3.toInt ≤ 7) ∧ tk_f D H a0 12 13 (.int g0) ∧ tk_f D H a0 12 15 (.int g15) ∧ (∃ n3x : Int32, jC D ld (ld 20) 0 n0 n1 n2 n3x fh fs fk q1 q2 q3 H ∧ (0 ≤ v92.toInt → (-1) * n3.toInt + n3x.toInt + (-1) = 0) ∧ (v92.toInt ≤ (-1) → (-1) * n3.toInt + n3x.toInt = 0)) from ⟨(fun _ => by omega), (fun _ => by omega), (fun _ => by omega), (fun _ => by omega), (fun _ => by omega), (fun _ => by omega), (fun _ _ _ _ _ _ _ => by omega), (fun _ _ _ _ _ _ _ => by omega), (fun _ _ _ _ _ _ _ => by omega), (fun _ _ _ _ _ _ _ => by omega), (fun _ _ _ _ _ _ _ _ _ _ _ => by omega), (fun _ _ _ _ _ _ _ _ _ _ _ => by omega), (fun _ => by omega), hf95, hf96, ⟨n3, ⟨hj0_0, hj0_1, hj0_2, hj0_3, hj0_4, hj0_5, hj0_6, hj0_7, hj0_8, hj0_9⟩, (fun _ => by omega), (fun _ => by omega)⟩⟩) hG hS dX12_sight_35
set_option maxHeartbeats 4000000 in
set_option maxRecDepth 100000 in
theorem k_X12_forget_x (l : Launch) (D : va_G) (cy : Nat → ClassId) (ld : Nat → Nat) (t : tk_T) (a0 : Nat) (n0 n1 n2 n3 : Int32) (fh fs fk q1 q2 q3 : Nat → Int32) (ht_a0 : t a0 = (13, 0, 0)) (ht_ld20 : t (ld 20) = (3, 0, 0)) (ht_ld70 : t (ld 70) = (32, 8, 0)) (ht_ld80 : t (ld 80) = (33, 10, 0)) (ht_ld90 : t (ld 90) = (34, 10, 0)) (ht_ld100 : t (ld 100) = (35, 10, 0)) (ht_ld110 : t (ld 110) = (36, 10, 0)) (ht_ld120 : t (ld 120) = (37, 10, 0)) (hp_0 : 0 ≤ n0.toInt) (hp_1 : n0.toInt ≤ 8) (hp_2 : 0 ≤ n1.toInt) (hp_3 : n1.toInt ≤ 10) (hp_4 : 0 ≤ n2.toInt) (hp_5 : n2.toInt ≤ 10) (hp_6 : 0 ≤ n3.toInt) (hp_7 : n3.toInt ≤ 8) : Met l yX12_forget (wl yX12_forget cX12_forget 2 (some .int)) ({ frames := 3, cells := 0, slots := 0, locals := 140 }) (tp D cy ld t [] [.ref a0] (fun H => jC D ld (ld 20) 0 n0 n1 n2 n3 fh fs fk q1 q2 q3 H)) (ti D cy ld t [] (fun r H => (-1) * n3.toInt + r.toInt = 0 ∧ 0 ≤ r.toInt ∧ r.toInt ≤ 8 ∧ (∃ n3x : Int32, jC D ld (ld 20) 0 n0 n1 n2 n3x fh fs fk q1 q2 q3 H ∧ n3x.toInt = 0)) (tk_w t [(3, 0, 0)])) 0 0 (tk_w t [(3, 0, 0)]) := by
  refine tk_met (y := yX12_forget) (cc := cX12_forget) (maxL := 2) (ret := (some .int)) (av := [.ref a0]) _ _ (by decide) (Nat.le_of_ble_eq_true rfl) ?_
  intro p e s m args below meth c hx hb hr hml hts htl hown hlocks hK H locs hH hG hS hB hZ ls hl
  have hown : s.vm.findClass RX12 = some m.cls := hown
  have hl : lv_has ls 2 [(0, .ref a0)] := hl
  have ⟨hj0_0, hj0_1, hj0_2, hj0_3, hj0_4, hj0_5, hj0_6, hj0_7, hj0_8, hj0_9⟩ := hB
  refine lv_aload_n hx hb dX12_forget_0 rfl (lv_at hl 0 rfl) ?_
  refine tk_get (ci := 12) (C := RX12) (T := TX12) (N := 17) (sp := (8, 20, 3, 0)) hx hb htl inX12 hown hK hG ht_a0 (by decide) tk_no rfl 0 (by decide) (htl _ mw_15) (fun _ h9 => h9) rfl dX12_forget_1 (fun v9 hf1 hV9 => ?_)
  obtain ⟨rfl, ht_ld20⟩ := hV9
  have ht_ld20 : t (ld 20) = (3, 0, 0) := ht_ld20
  refine fx_top (v := .ref (ld 20)) rfl ?_
  refine tk_getk (ci := 2) (C := RX2) (T := TX2) (N := 20) (sp := (0, 0, 8, 0)) hx hb htl inX2 hown hK hG ht_ld20 (by decide) tk_no rfl 11 (by decide) (htl _ mw_1499) (fun _ h9 => h9) rfl hj0_3 dX12_forget_4 ?_
  refine lv_istore_n (lv' := [(1, .int n3), (0, .ref a0)]) hx hb dX12_forget_7 rfl hl (by decide) rfl (fun ls hl => ?_)
  refine lv_aload_n hx hb dX12_forget_8 rfl (lv_at hl 1 rfl) ?_
  refine tk_get (ci := 12) (C := RX12) (T := TX12) (N := 17) (sp := (8, 20, 3, 0)) hx hb htl inX12 hown hK hG ht_a0 (by decide) tk_no rfl 0 (by decide) (htl _ mw_15) (fun _ h9 => h9) rfl dX12_forget_9 (fun v9 hf2 hV9 => ?_)
  obtain ⟨rfl, ht_ld20⟩ := hV9
  have ht_ld20 : t (ld 20) = (3, 0, 0) := ht_ld20
  refine fx_top (v := .ref (ld 20)) rfl ?_
  refine lv_iconst (v := 0) hx hb dX12_forget_12 (by decide) ?_
  refine tk_put (ci := 2) (v := .int 0) (ty := .int) (C := RX2) (T := TX2) (N := 20) (sp := (0, 0, 8, 0)) hx hb htl inX2 tyX2 tyX2_ok nmX2 hown hK hG hS ht_ld20 (by decide) tk_no rfl 11 (by decide) (htl _ mw_1499) (fun _ h9 => h9) rfl (tyX2_ok 11 (by decide)) rfl rfl rfl (tk_V0 (by decide) (by decide)) (fun _ h => h) (tk_w.of ht_ld20 (by decide) (List.mem_of_getElem? (i := 0) rfl) (Nat.le_refl _) (Nat.le_refl _)) dX12_forget_13 (fun H locs hG hS hf3 hq9 hj9 => ?_)
  have hj0_0 := hj9 0 _ (by decide) (by decide) hj0_0
  have hj0_1 := hj9 4 _ (by decide) (by decide) hj0_1
  have hj0_2 := hj9 7 _ (by decide) (by decide) hj0_2
  have hj0_4 := hj0_4.kept (hq9 _ (tk_ne ht_ld70 ht_ld20 (Or.inl (by decide))))
  have hj0_5 := hj0_5.kept (hq9 _ (tk_ne ht_ld80 ht_ld20 (Or.inl (by decide))))
  have hj0_6 := hj0_6.kept (hq9 _ (tk_ne ht_ld90 ht_ld20 (Or.inl (by decide))))
  have hj0_7 := hj0_7.kept (hq9 _ (tk_ne ht_ld100 ht_ld20 (Or.inl (by decide))))
  have hj0_8 := hj0_8.kept (hq9 _ (tk_ne ht_ld110 ht_ld20 (Or.inl (by decide))))
  have hj0_9 := hj0_9.kept (hq9 _ (tk_ne ht_ld120 ht_ld20 (Or.inl (by decide))))
  refine lv_iload_n hx hb dX12_forget_16 rfl (lv_at hl 0 rfl) ?_
  have hk_0 : (0 : Int32).toInt = 0 := by decide
  exact tk_iret (v := n3) hx hb hr rfl hlocks (show (-1) * n3.toInt + n3.toInt = 0 ∧ 0 ≤ n3.toInt ∧ n3.toInt ≤ 8 ∧ (∃ n3x : Int32, jC D ld (ld 20) 0 n0 n1 n2 n3x fh fs fk q1 q2 q3 H ∧ n3x.toInt = 0) from ⟨(by omega), (by omega), (by omega), ⟨0, ⟨hj0_0, hj0_1, hj0_2, hf3, hj0_4, hj0_5, hj0_6, hj0_7, hj0_8, hj0_9⟩, (by omega)⟩⟩) hG hS dX12_forget_17
set_option maxHeartbeats 4000000 in
set_option maxRecDepth 100000 in
theorem k_X12_decade_x (l : Launch) (D : va_G) (cy : Nat → ClassId) (ld : Nat → Nat) (t : tk_T) (a0 : Nat) (p1 : Int32) (p2 : Int32) (g0 : Int32) (g15 : Int32) (ht_a0 : t a0 = (13, 0, 0)) (hp_0 : 0 ≤ g0.toInt) (hp_1 : g0.toInt ≤ 400) (hp_2 : (-2147483648) ≤ g15.toInt) (hp_3 : g15.toInt ≤ 2147483647) : Met l yX12_decade (wl yX12_decade cX12_decade 3 (some .int)) ({ frames := 9, cells := 0, slots := 0, locals := 560 }) (tp D cy ld t [] [.ref a0, .int p1, .int p2] (fun H => tk_f D H a0 12 13 (.int g0) ∧ tk_f D H a0 12 15 (.int g15))) (ti D cy ld t [] (fun r H => (-3) ≤ r.toInt ∧ r.toInt ≤ 60 ∧ tk_f D H a0 12 13 (.int g0) ∧ tk_f D H a0 12 15 (.int g15)) (tk_w t [(13, 0, 0), (20, 0, 0), (1, 0, 0), (20, 5, 5), (10, 5, 5), (12, 0, 0), (9, 0, 0), (22, 0, 0)])) 0 0 (tk_w t [(13, 0, 0), (20, 0, 0), (1, 0, 0), (20, 5, 5), (10, 5, 5), (12, 0, 0), (9, 0, 0), (22, 0, 0)]) := by
  refine tk_met (y := yX12_decade) (cc := cX12_decade) (maxL := 3) (ret := (some .int)) (av := [.ref a0, .int p1, .int p2]) _ _ (by decide) (Nat.le_of_ble_eq_true rfl) ?_
  intro p e s m args below meth c hx hb hr hml hts htl hown hlocks hK H locs hH hG hS hB hZ ls hl
  have hown : s.vm.findClass RX12 = some m.cls := hown
  have hl : lv_has ls 3 [(0, .ref a0), (1, .int p1), (2, .int p2)] := hl
  obtain ⟨hg_0, hg_1⟩ := hB
  have hr_p1 := tk_rng p1
  have hr_p2 := tk_rng p2
  refine lv_iload_n hx hb dX12_decade_0 rfl (lv_at hl 1 rfl) ?_
  refine lv_iconst (v := 0) hx hb dX12_decade_1 (by decide) ?_
  refine lv_ldcw hx hb hown (htl _ mw_1631) dX12_decade_2 ?_
  have hk_0 : (0 : Int32).toInt = 0 := by decide
  have hk_1000000 : (1000000 : Int32).toInt = 1000000 := by decide
  refine tk_Si (As := [.int p1, .int 0, .int 1000000]) (rest := []) ⟨hx, hb, hml, hown, hts⟩ hK hG hZ hS (k_X12_within_x l D cy ld t _ p1 0 1000000) trivial ⟨callB_of 3 hts (wl_in mw_262) rfl rfl rfl (htl _ mw_2) (htl _ mw_277) hd_yX12_within ⟨(Nat.le_of_ble_eq_true rfl), (Nat.le_of_ble_eq_true rfl)⟩, htl _ mw_261⟩ (tk_w.pick [] rfl) rfl hl.1 rfl (Nat.le_of_ble_eq_true rfl) dX12_decade_5 ⟨(Nat.le_of_ble_eq_true rfl), (Nat.le_of_ble_eq_true rfl)⟩ (fun v1 H locs hpo hG hS hq9 => ?_)
  have hg_0 := hg_0.call hq9 tk_w.nil
  have hg_1 := hg_1.call hq9 tk_w.nil
  obtain ⟨hpo3, hpo4, hpo5, hpo6, hpo7, hpo8⟩ := hpo
  refine lv_if_eq (tgt := 21) hx hb dX12_decade_8 (by decide) (fun c9 => ?_) (fun c9 => ?_)
  · have hc9 : v1.toInt = 0 := (fi_eq rfl (show (0 : Int32).toInt = 0 by decide)).mp c9
    refine lv_aload_n hx hb dX12_decade_21 rfl (lv_at hl 0 rfl) ?_
    refine lv_iconst (v := (-1)) hx hb dX12_decade_22 (by decide) ?_
    have hk_m1 : ((-1) : Int32).toInt = (-1) := by decide
    refine tk_Vi (As := [.int (-1)]) (rest := []) (ci := 12) ⟨hx, hb, hml, hown, hts⟩ hK hG hZ hS (k_X12_refuse_x l D cy ld t a0 (-1) g0 g15 ht_a0 (by omega) (by omega) (by omega) (by omega)) ⟨hg_0, hg_1⟩ ⟨callB_of 1 hts (wl_in mw_275) rfl rfl rfl (htl _ mw_2) (htl _ mw_272) hd_yX12_refuse ⟨(Nat.le_of_ble_eq_true rfl), (Nat.le_of_ble_eq_true rfl)⟩, htl _ mw_273, htl _ mw_274⟩ ht_a0 (by decide) tk_no rfl (tk_w.pick [0, 1] rfl) rfl hl.1 rfl (Nat.le_of_ble_eq_true rfl) dX12_decade_23 ⟨(Nat.le_of_ble_eq_true rfl), (Nat.le_of_ble_eq_true rfl)⟩ (fun v10 H locs hpo hG hS hq9 => ?_)
    obtain ⟨hpo12, hf13, hf14⟩ := hpo
    exact tk_iret (v := v10) hx hb hr rfl hlocks (show (-3) ≤ v10.toInt ∧ v10.toInt ≤ 60 ∧ tk_f D H a0 12 13 (.int g0) ∧ tk_f D H a0 12 15 (.int g15) from ⟨(by omega), (by omega), hf13, hf14⟩) hG hS dX12_decade_26
  · have hc9 : ¬ (v1.toInt = 0) := fun h9 => c9 ((fi_eq rfl (show (0 : Int32).toInt = 0 by decide)).mpr h9)
    refine lv_iload_n hx hb dX12_decade_11 rfl (lv_at hl 2 rfl) ?_
    refine lv_iconst (v := 1) hx hb dX12_decade_12 (by decide) ?_
    refine lv_bipush (v := 60) hx hb dX12_decade_13 (by decide) ?_
    have hk_1 : (1 : Int32).toInt = 1 := by decide
    have hk_60 : (60 : Int32).toInt = 60 := by decide
    refine tk_Si (As := [.int p2, .int 1, .int 60]) (rest := []) ⟨hx, hb, hml, hown, hts⟩ hK hG hZ hS (k_X12_within_x l D cy ld t _ p2 1 60) trivial ⟨callB_of 3 hts (wl_in mw_262) rfl rfl rfl (htl _ mw_2) (htl _ mw_277) hd_yX12_within ⟨(Nat.le_of_ble_eq_true rfl), (Nat.le_of_ble_eq_true rfl)⟩, htl _ mw_261⟩ (tk_w.pick [] rfl) rfl hl.1 rfl (Nat.le_of_ble_eq_true rfl) dX12_decade_15 ⟨(Nat.le_of_ble_eq_true rfl), (Nat.le_of_ble_eq_true rfl)⟩ (fun v15 H locs hpo hG hS hq9 => ?_)
    have hg_0 := hg_0.call hq9 tk_w.nil
    have hg_1 := hg_1.call hq9 tk_w.nil
    obtain ⟨hpo17, hpo18, hpo19, hpo20, hpo21, hpo22⟩ := hpo
    refine lv_if_ne (tgt := 27) hx hb dX12_decade_18 (by decide) (fun c9 => ?_) (fun c9 => ?_)
    · have hc23 : ¬ (v15.toInt = 0) := fun h9 => c9 ((fi_eq rfl (show (0 : Int32).toInt = 0 by decide)).mpr h9)
      refine lv_aload_n hx hb dX12_decade_27 rfl (lv_at hl 0 rfl) ?_
      refine tk_get (ci := 12) (C := RX12) (T := TX12) (N := 17) (sp := (8, 20, 3, 0)) hx hb htl inX12 hown hK hG ht_a0 (by decide) tk_no rfl 0 (by decide) (htl _ mw_15) (fun _ h9 => h9) rfl dX12_decade_28 (fun v9 hf24 hV9 => ?_)
      obtain ⟨rfl, ht_ld20⟩ := hV9
      have ht_ld20 : t (ld 20) = (3, 0, 0) := ht_ld20
      refine fx_top (v := .ref (ld 20)) rfl ?_
      refine tk_get (ci := 2) (C := RX2) (T := TX2) (N := 20) (sp := (0, 0, 10, 0)) hx hb htl inX2 hown hK hG ht_ld20 (by decide) tk_no rfl 4 (by decide) (htl _ mw_1331) (fun _ h9 => h9) rfl dX12_decade_31 (fun v9 hf25 hV9 => ?_)
      obtain ⟨v26, rfl, (ha_v26 : 0 ≤ v26.toInt), (hb_v26 : v26.toInt ≤ 10)⟩ := hV9
      refine lv_if_eq (tgt := 59) hx hb dX12_decade_34 (by decide) (fun c9 => ?_) (fun c9 => ?_)
      · have hc27 : v26.toInt = 0 := (fi_eq rfl (show (0 : Int32).toInt = 0 by decide)).mp c9
        refine lv_aload_n hx hb dX12_decade_59 rfl (lv_at hl 0 rfl) ?_
        refine lv_bipush (v := (-3)) hx hb dX12_decade_60 (by decide) ?_
        have hk_m3 : ((-3) : Int32).toInt = (-3) := by decide
        refine tk_Vi (As := [.int (-3)]) (rest := []) (ci := 12) ⟨hx, hb, hml, hown, hts⟩ hK hG hZ hS (k_X12_refuse_x l D cy ld t a0 (-3) g0 g15 ht_a0 (by omega) (by omega) (by omega) (by omega)) ⟨hg_0, hg_1⟩ ⟨callB_of 1 hts (wl_in mw_275) rfl rfl rfl (htl _ mw_2) (htl _ mw_272) hd_yX12_refuse ⟨(Nat.le_of_ble_eq_true rfl), (Nat.le_of_ble_eq_true rfl)⟩, htl _ mw_273, htl _ mw_274⟩ ht_a0 (by decide) tk_no rfl (tk_w.pick [0, 1] rfl) rfl hl.1 rfl (Nat.le_of_ble_eq_true rfl) dX12_decade_62 ⟨(Nat.le_of_ble_eq_true rfl), (Nat.le_of_ble_eq_true rfl)⟩ (fun v28 H locs hpo hG hS hq9 => ?_)
        have hf25 := hf25.call hq9 (tk_w.no ht_ld20 (by decide))
        obtain ⟨hpo30, hf31, hf32⟩ := hpo
        exact tk_iret (v := v28) hx hb hr rfl hlocks (show (-3) ≤ v28.toInt ∧ v28.toInt ≤ 60 ∧ tk_f D H a0 12 13 (.int g0) ∧ tk_f D H a0 12 15 (.int g15) from ⟨(by omega), (by omega), hf31, hf32⟩) hG hS dX12_decade_65
      · have hc27 : ¬ (v26.toInt = 0) := fun h9 => c9 ((fi_eq rfl (show (0 : Int32).toInt = 0 by decide)).mpr h9)
        refine lv_aload_n hx hb dX12_decade_37 rfl (lv_at hl 0 rfl) ?_
        refine tk_get (ci := 12) (C := RX12) (T := TX12) (N := 17) (sp := (8, 20, 3, 0)) hx hb htl inX12 hown hK hG ht_a0 (by decide) tk_no rfl 0 (by decide) (htl _ mw_15) (fun _ h9 => h9) rfl dX12_decade_38 (fun v9 hf33 hV9 => ?_)
        obtain ⟨rfl, ht_ld20⟩ := hV9
        have ht_ld20 : t (ld 20) = (3, 0, 0) := ht_ld20
        refine fx_top (v := .ref (ld 20)) rfl ?_
        refine lv_iconst (v := 0) hx hb dX12_decade_41 (by decide) ?_
        have hk_0 : (0 : Int32).toInt = 0 := by decide
        refine tk_Vi (As := [.int 0]) (rest := []) (ci := 2) ⟨hx, hb, hml, hown, hts⟩ hK hG hZ hS (k_X2_howManyOf l D cy ld t (ld 20) 0 ht_ld20) trivial ⟨callB_of 1 hts (wl_in mw_1635) rfl rfl rfl (htl _ mw_14) (htl _ mw_1632) hd_yX2_howManyOf ⟨(Nat.le_of_ble_eq_true rfl), (Nat.le_of_ble_eq_true rfl)⟩, htl _ mw_1633, htl _ mw_1634⟩ ht_ld20 (by decide) tk_no rfl (tk_w.pick [] rfl) rfl hl.1 rfl (Nat.le_of_ble_eq_true rfl) dX12_decade_42 ⟨(Nat.le_of_ble_eq_true rfl), (Nat.le_of_ble_eq_true rfl)⟩ (fun v34 H locs hpo hG hS hq9 => ?_)
        have hg_0 := hg_0.call hq9 tk_w.nil
        have hg_1 := hg_1.call hq9 tk_w.nil
        have hf25 := hf25.call hq9 tk_w.nil
        obtain ⟨hpo36, hpo37⟩ := hpo
        refine lv_if_eq (tgt := 59) hx hb dX12_decade_45 (by decide) (fun c9 => ?_) (fun c9 => ?_)
        · have hc38 : v34.toInt = 0 := (fi_eq rfl (show (0 : Int32).toInt = 0 by decide)).mp c9
          refine lv_aload_n hx hb dX12_decade_59 rfl (lv_at hl 0 rfl) ?_
          refine lv_bipush (v := (-3)) hx hb dX12_decade_60 (by decide) ?_
          have hk_m3 : ((-3) : Int32).toInt = (-3) := by decide
          refine tk_Vi (As := [.int (-3)]) (rest := []) (ci := 12) ⟨hx, hb, hml, hown, hts⟩ hK hG hZ hS (k_X12_refuse_x l D cy ld t a0 (-3) g0 g15 ht_a0 (by omega) (by omega) (by omega) (by omega)) ⟨hg_0, hg_1⟩ ⟨callB_of 1 hts (wl_in mw_275) rfl rfl rfl (htl _ mw_2) (htl _ mw_272) hd_yX12_refuse ⟨(Nat.le_of_ble_eq_true rfl), (Nat.le_of_ble_eq_true rfl)⟩, htl _ mw_273, htl _ mw_274⟩ ht_a0 (by decide) tk_no rfl (tk_w.pick [0, 1] rfl) rfl hl.1 rfl (Nat.le_of_ble_eq_true rfl) dX12_decade_62 ⟨(Nat.le_of_ble_eq_true rfl), (Nat.le_of_ble_eq_true rfl)⟩ (fun v39 H locs hpo hG hS hq9 => ?_)
          have hf25 := hf25.call hq9 (tk_w.no ht_ld20 (by decide))
          obtain ⟨hpo41, hf42, hf43⟩ := hpo
          exact tk_iret (v := v39) hx hb hr rfl hlocks (show (-3) ≤ v39.toInt ∧ v39.toInt ≤ 60 ∧ tk_f D H a0 12 13 (.int g0) ∧ tk_f D H a0 12 15 (.int g15) from ⟨(by omega), (by omega), hf42, hf43⟩) hG hS dX12_decade_65
        · have hc38 : ¬ (v34.toInt = 0) := fun h9 => c9 ((fi_eq rfl (show (0 : Int32).toInt = 0 by decide)).mpr h9)
          refine lv_aload_n hx hb dX12_decade_48 rfl (lv_at hl 0 rfl) ?_
          refine tk_get (ci := 12) (C := RX12) (T := TX12) (N := 17) (sp := (8, 20, 3, 0)) hx hb htl inX12 hown hK hG ht_a0 (by decide) tk_no rfl 0 (by decide) (htl _ mw_15) (fun _ h9 => h9) rfl dX12_decade_49 (fun v9 hf44 hV9 => ?_)
          obtain ⟨rfl, ht_ld20⟩ := hV9
          have ht_ld20 : t (ld 20) = (3, 0, 0) := ht_ld20
          refine fx_top (v := .ref (ld 20)) rfl ?_
          refine lv_iconst (v := 1) hx hb dX12_decade_52 (by decide) ?_
          have hk_1 : (1 : Int32).toInt = 1 := by decide
          refine tk_Vi (As := [.int 1]) (rest := []) (ci := 2) ⟨hx, hb, hml, hown, hts⟩ hK hG hZ hS (k_X2_howManyOf l D cy ld t (ld 20) 1 ht_ld20) trivial ⟨callB_of 1 hts (wl_in mw_1635) rfl rfl rfl (htl _ mw_14) (htl _ mw_1632) hd_yX2_howManyOf ⟨(Nat.le_of_ble_eq_true rfl), (Nat.le_of_ble_eq_true rfl)⟩, htl _ mw_1633, htl _ mw_1634⟩ ht_ld20 (by decide) tk_no rfl (tk_w.pick [] rfl) rfl hl.1 rfl (Nat.le_of_ble_eq_true rfl) dX12_decade_53 ⟨(Nat.le_of_ble_eq_true rfl), (Nat.le_of_ble_eq_true rfl)⟩ (fun v45 H locs hpo hG hS hq9 => ?_)
          have hg_0 := hg_0.call hq9 tk_w.nil
          have hg_1 := hg_1.call hq9 tk_w.nil
          have hf25 := hf25.call hq9 tk_w.nil
          obtain ⟨hpo47, hpo48⟩ := hpo
          refine lv_if_ne (tgt := 66) hx hb dX12_decade_56 (by decide) (fun c9 => ?_) (fun c9 => ?_)
          · have hc49 : ¬ (v45.toInt = 0) := fun h9 => c9 ((fi_eq rfl (show (0 : Int32).toInt = 0 by decide)).mpr h9)
            refine lv_aload_n hx hb dX12_decade_66 rfl (lv_at hl 0 rfl) ?_
            refine lv_aload_n hx hb dX12_decade_67 rfl (lv_at hl 0 rfl) ?_
            refine tk_get (ci := 12) (C := RX12) (T := TX12) (N := 17) (sp := (6, 1, 0, 0)) hx hb htl inX12 hown hK hG ht_a0 (by decide) tk_no rfl 8 (by decide) (htl _ mw_45) (fun _ h9 => h9) rfl dX12_decade_68 (fun v9 hf50 hV9 => ?_)
            obtain ⟨b51, rfl, ht_b51⟩ := hV9
            have ht_b51 : t b51 = (1, 0, 0) := ht_b51
            refine lv_iload_n hx hb dX12_decade_71 rfl (lv_at hl 1 rfl) ?_
            refine lv_iload_n hx hb dX12_decade_72 rfl (lv_at hl 2 rfl) ?_
            refine tk_Vi (As := [.int p1, .int p2]) (rest := [.ref a0]) (ci := 0) ⟨hx, hb, hml, hown, hts⟩ hK hG hZ hS (k_X0_run l D cy ld t b51 p1 p2 ht_b51 (by omega) (by omega) (by omega) (by omega)) trivial ⟨callB_of 2 hts (wl_in mw_1639) rfl rfl rfl (htl _ mw_44) (htl _ mw_1636) hd_yX0_run ⟨(Nat.le_of_ble_eq_true rfl), (Nat.le_of_ble_eq_true rfl)⟩, htl _ mw_1637, htl _ mw_1638⟩ ht_b51 (by decide) tk_no rfl (tk_w.pick [2, 3, 4, 1, 5, 6, 7] rfl) rfl hl.1 rfl (Nat.le_of_ble_eq_true rfl) dX12_decade_73 ⟨(Nat.le_of_ble_eq_true rfl), (Nat.le_of_ble_eq_true rfl)⟩ (fun v52 H locs hpo hG hS hq9 => ?_)
            have hg_0 := hg_0.call hq9 (tk_w.no ht_a0 (by decide))
            have hg_1 := hg_1.call hq9 (tk_w.no ht_a0 (by decide))
            have hf25 := hf25.call hq9 (tk_w.no ht_ld20 (by decide))
            obtain ⟨hpo54, hpo55⟩ := hpo
            refine tk_Vi (As := [.int v52]) (rest := []) (ci := 12) ⟨hx, hb, hml, hown, hts⟩ hK hG hZ hS (k_X12_accept_x l D cy ld t a0 v52 g0 g15 ht_a0 (by omega) (by omega) (by omega) (by omega)) ⟨hg_0, hg_1⟩ ⟨callB_of 1 hts (wl_in mw_281) rfl rfl rfl (htl _ mw_2) (htl _ mw_278) hd_yX12_accept ⟨(Nat.le_of_ble_eq_true rfl), (Nat.le_of_ble_eq_true rfl)⟩, htl _ mw_279, htl _ mw_280⟩ ht_a0 (by decide) tk_no rfl (tk_w.pick [0] rfl) rfl hl.1 rfl (Nat.le_of_ble_eq_true rfl) dX12_decade_76 ⟨(Nat.le_of_ble_eq_true rfl), (Nat.le_of_ble_eq_true rfl)⟩ (fun v56 H locs hpo hG hS hq9 => ?_)
            have hf25 := hf25.call hq9 (tk_w.no ht_ld20 (by decide))
            obtain ⟨hpo58, hf59, hf60⟩ := hpo
            exact tk_iret (v := v56) hx hb hr rfl hlocks (show (-3) ≤ v56.toInt ∧ v56.toInt ≤ 60 ∧ tk_f D H a0 12 13 (.int g0) ∧ tk_f D H a0 12 15 (.int g15) from ⟨(by omega), (by omega), hf59, hf60⟩) hG hS dX12_decade_79
          · have hc49 : v45.toInt = 0 := (fi_eq rfl (show (0 : Int32).toInt = 0 by decide)).mp c9
            refine lv_aload_n hx hb dX12_decade_59 rfl (lv_at hl 0 rfl) ?_
            refine lv_bipush (v := (-3)) hx hb dX12_decade_60 (by decide) ?_
            have hk_m3 : ((-3) : Int32).toInt = (-3) := by decide
            refine tk_Vi (As := [.int (-3)]) (rest := []) (ci := 12) ⟨hx, hb, hml, hown, hts⟩ hK hG hZ hS (k_X12_refuse_x l D cy ld t a0 (-3) g0 g15 ht_a0 (by omega) (by omega) (by omega) (by omega)) ⟨hg_0, hg_1⟩ ⟨callB_of 1 hts (wl_in mw_275) rfl rfl rfl (htl _ mw_2) (htl _ mw_272) hd_yX12_refuse ⟨(Nat.le_of_ble_eq_true rfl), (Nat.le_of_ble_eq_true rfl)⟩, htl _ mw_273, htl _ mw_274⟩ ht_a0 (by decide) tk_no rfl (tk_w.pick [0, 1] rfl) rfl hl.1 rfl (Nat.le_of_ble_eq_true rfl) dX12_decade_62 ⟨(Nat.le_of_ble_eq_true rfl), (Nat.le_of_ble_eq_true rfl)⟩ (fun v61 H locs hpo hG hS hq9 => ?_)
            have hf25 := hf25.call hq9 (tk_w.no ht_ld20 (by decide))
            obtain ⟨hpo63, hf64, hf65⟩ := hpo
            exact tk_iret (v := v61) hx hb hr rfl hlocks (show (-3) ≤ v61.toInt ∧ v61.toInt ≤ 60 ∧ tk_f D H a0 12 13 (.int g0) ∧ tk_f D H a0 12 15 (.int g15) from ⟨(by omega), (by omega), hf64, hf65⟩) hG hS dX12_decade_65
    · have hc23 : v15.toInt = 0 := (fi_eq rfl (show (0 : Int32).toInt = 0 by decide)).mp c9
      refine lv_aload_n hx hb dX12_decade_21 rfl (lv_at hl 0 rfl) ?_
      refine lv_iconst (v := (-1)) hx hb dX12_decade_22 (by decide) ?_
      have hk_m1 : ((-1) : Int32).toInt = (-1) := by decide
      refine tk_Vi (As := [.int (-1)]) (rest := []) (ci := 12) ⟨hx, hb, hml, hown, hts⟩ hK hG hZ hS (k_X12_refuse_x l D cy ld t a0 (-1) g0 g15 ht_a0 (by omega) (by omega) (by omega) (by omega)) ⟨hg_0, hg_1⟩ ⟨callB_of 1 hts (wl_in mw_275) rfl rfl rfl (htl _ mw_2) (htl _ mw_272) hd_yX12_refuse ⟨(Nat.le_of_ble_eq_true rfl), (Nat.le_of_ble_eq_true rfl)⟩, htl _ mw_273, htl _ mw_274⟩ ht_a0 (by decide) tk_no rfl (tk_w.pick [0, 1] rfl) rfl hl.1 rfl (Nat.le_of_ble_eq_true rfl) dX12_decade_23 ⟨(Nat.le_of_ble_eq_true rfl), (Nat.le_of_ble_eq_true rfl)⟩ (fun v66 H locs hpo hG hS hq9 => ?_)
      obtain ⟨hpo68, hf69, hf70⟩ := hpo
      exact tk_iret (v := v66) hx hb hr rfl hlocks (show (-3) ≤ v66.toInt ∧ v66.toInt ≤ 60 ∧ tk_f D H a0 12 13 (.int g0) ∧ tk_f D H a0 12 15 (.int g15) from ⟨(by omega), (by omega), hf69, hf70⟩) hG hS dX12_decade_26
set_option maxHeartbeats 4000000 in
set_option maxRecDepth 100000 in
theorem k_X2_copyFrom_6_0_x (l : Launch) (D : va_G) (cy : Nat → ClassId) (ld : Nat → Nat) (t : tk_T) (a0 : Nat) (a1 : Nat) (n0 n1 n2 n3 : Int32) (fh fs fk q1 q2 q3 : Nat → Int32) (ht_a0 : t a0 = (3, 0, 6)) (ht_a1 : t a1 = (3, 0, 0)) (ht_ld70 : t (ld 70) = (32, 8, 0)) (ht_ld80 : t (ld 80) = (33, 10, 0)) (ht_ld90 : t (ld 90) = (34, 10, 0)) (ht_ld100 : t (ld 100) = (35, 10, 0)) (ht_ld110 : t (ld 110) = (36, 10, 0)) (ht_ld120 : t (ld 120) = (37, 10, 0)) (ht_ld76 : t (ld 76) = (32, 8, 6)) (ht_ld86 : t (ld 86) = (33, 10, 6)) (ht_ld96 : t (ld 96) = (34, 10, 6)) (ht_ld106 : t (ld 106) = (35, 10, 6)) (ht_ld116 : t (ld 116) = (36, 10, 6)) (ht_ld126 : t (ld 126) = (37, 10, 6)) (hp_0 : 0 ≤ n0.toInt) (hp_1 : n0.toInt ≤ 8) (hp_2 : 0 ≤ n1.toInt) (hp_3 : n1.toInt ≤ 10) (hp_4 : 0 ≤ n2.toInt) (hp_5 : n2.toInt ≤ 10) (hp_6 : 0 ≤ n3.toInt) (hp_7 : n3.toInt ≤ 8) : Met l yX2_copyFrom (wl yX2_copyFrom cX2_copyFrom 3 none) ({ frames := 5, cells := 0, slots := 0, locals := 280 }) (tp D cy ld t [] [.ref a0, .ref a1] (fun H => jC D ld a1 0 n0 n1 n2 n3 fh fs fk q1 q2 q3 H)) (tv D cy ld t [] (fun H => jC D ld a1 0 n0 n1 n2 n3 fh fs fk q1 q2 q3 H ∧ jC D ld a0 6 n0 n1 n2 n3 fh fs fk q1 q2 q3 H) (tk_w t [(3, 6, 6), (20, 6, 6), (21, 6, 6), (32, 6, 6), (33, 6, 6), (34, 6, 6), (35, 6, 6), (36, 6, 6), (37, 6, 6), (24, 6, 6), (28, 6, 6), (10, 6, 6)])) 0 0 (tk_w t [(3, 6, 6), (20, 6, 6), (21, 6, 6), (32, 6, 6), (33, 6, 6), (34, 6, 6), (35, 6, 6), (36, 6, 6), (37, 6, 6), (24, 6, 6), (28, 6, 6), (10, 6, 6)]) := by
  refine tk_met (y := yX2_copyFrom) (cc := cX2_copyFrom) (maxL := 3) (ret := none) (av := [.ref a0, .ref a1]) _ _ (by decide) (Nat.le_of_ble_eq_true rfl) ?_
  intro p e s m args below meth c hx hb hr hml hts htl hown hlocks hK H locs hH hG hS hB hZ ls hl
  have hown : s.vm.findClass RX2 = some m.cls := hown
  have hl : lv_has ls 3 [(0, .ref a0), (1, .ref a1)] := hl
  have ⟨hj0_0, hj0_1, hj0_2, hj0_3, hj0_4, hj0_5, hj0_6, hj0_7, hj0_8, hj0_9⟩ := hB
  refine lv_aload_n hx hb dX2_copyFrom_0 rfl (lv_at hl 0 rfl) ?_
  refine lv_aload_n hx hb dX2_copyFrom_1 rfl (lv_at hl 1 rfl) ?_
  refine tk_getk (ci := 2) (C := RX2) (T := TX2) (N := 20) (sp := (0, 0, 8, 0)) hx hb htl inX2 hown hK hG ht_a1 (by decide) tk_no rfl 0 (by decide) (htl _ mw_257) (fun _ h9 => h9) rfl hj0_0 dX2_copyFrom_2 ?_
  refine tk_put (ci := 2) (v := .int n0) (ty := .int) (C := RX2) (T := TX2) (N := 20) (sp := (0, 0, 8, 0)) hx hb htl inX2 tyX2 tyX2_ok nmX2 hown hK hG hS ht_a0 (by decide) tk_no rfl 0 (by decide) (htl _ mw_257) (fun _ h9 => h9) rfl (tyX2_ok 0 (by decide)) rfl rfl rfl (tk_V0 (by omega) (by omega)) (fun _ h => h) (tk_w.of ht_a0 (by decide) (List.mem_of_getElem? (i := 0) rfl) (Nat.le_refl _) (Nat.le_refl _)) dX2_copyFrom_5 (fun H locs hG hS hf1 hq9 hj9 => ?_)
  have hj0_0 := hj0_0.kept (hq9 _ (tk_ne ht_a1 ht_a0 (Or.inr (Or.inr (by decide)))))
  have hj0_1 := hj0_1.kept (hq9 _ (tk_ne ht_a1 ht_a0 (Or.inr (Or.inr (by decide)))))
  have hj0_2 := hj0_2.kept (hq9 _ (tk_ne ht_a1 ht_a0 (Or.inr (Or.inr (by decide)))))
  have hj0_3 := hj0_3.kept (hq9 _ (tk_ne ht_a1 ht_a0 (Or.inr (Or.inr (by decide)))))
  have hj0_4 := hj0_4.kept (hq9 _ (tk_ne ht_ld70 ht_a0 (Or.inl (by decide))))
  have hj0_5 := hj0_5.kept (hq9 _ (tk_ne ht_ld80 ht_a0 (Or.inl (by decide))))
  have hj0_6 := hj0_6.kept (hq9 _ (tk_ne ht_ld90 ht_a0 (Or.inl (by decide))))
  have hj0_7 := hj0_7.kept (hq9 _ (tk_ne ht_ld100 ht_a0 (Or.inl (by decide))))
  have hj0_8 := hj0_8.kept (hq9 _ (tk_ne ht_ld110 ht_a0 (Or.inl (by decide))))
  have hj0_9 := hj0_9.kept (hq9 _ (tk_ne ht_ld120 ht_a0 (Or.inl (by decide))))
  refine lv_aload_n hx hb dX2_copyFrom_8 rfl (lv_at hl 1 rfl) ?_
  refine tk_get (ci := 2) (C := RX2) (T := TX2) (N := 20) (sp := (1, 20, 8, 0)) hx hb htl inX2 hown hK hG ht_a1 (by decide) tk_no rfl 1 (by decide) (htl _ mw_60) (fun _ h9 => h9) rfl dX2_copyFrom_9 (fun v9 hf3 hV9 => ?_)
  obtain ⟨b4, rfl, ht_b4⟩ := hV9
  have ht_b4 : t b4 = (20, 8, 0) := ht_b4
  refine lv_iconst (v := 0) hx hb dX2_copyFrom_12 (by decide) ?_
  refine lv_aload_n hx hb dX2_copyFrom_13 rfl (lv_at hl 0 rfl) ?_
  refine tk_get (ci := 2) (C := RX2) (T := TX2) (N := 20) (sp := (1, 20, 8, 0)) hx hb htl inX2 hown hK hG ht_a0 (by decide) tk_no rfl 1 (by decide) (htl _ mw_60) (fun _ h9 => h9) rfl dX2_copyFrom_14 (fun v9 hf5 hV9 => ?_)
  obtain ⟨b6, rfl, ht_b6⟩ := hV9
  have ht_b6 : t b6 = (20, 8, 6) := ht_b6
  refine lv_iconst (v := 0) hx hb dX2_copyFrom_17 (by decide) ?_
  refine lv_bipush (v := 8) hx hb dX2_copyFrom_18 (by decide) ?_
  refine tk_copy (SP := 0) (DP := 0) (NC := 8) hx hb (by rw [hml]; exact hl.1.symm) hown (htl _ mw_1712) (htl _ mw_655) (htl _ mw_656) (htl _ mw_657) hK hG hS ht_b4 ht_b6 (by decide) (by decide) (fun _ h => h) (fun _ => Iff.rfl) tk_no tk_no (show (0 : Int32).toInt = 0 by decide) (show (0 : Int32).toInt = 0 by decide) (show (8 : Int32).toInt = 8 by decide) (by decide) (by decide) (by decide) (by decide) (by decide) (fun _ _ _ _ _ => trivial) (tk_w.of ht_b6 (by decide) (List.mem_of_getElem? (i := 1) rfl) (Nat.le_refl _) (Nat.le_refl _)) (Nat.le_of_ble_eq_true rfl) (Nat.le_of_ble_eq_true rfl) dX2_copyFrom_20 (fun H locs hG hS hq9 => ?_)
  have hj0_0 := hj0_0.kept (hq9 _ (tk_ne ht_a1 ht_b6 (Or.inl (by decide))))
  have hj0_1 := hj0_1.kept (hq9 _ (tk_ne ht_a1 ht_b6 (Or.inl (by decide))))
  have hj0_2 := hj0_2.kept (hq9 _ (tk_ne ht_a1 ht_b6 (Or.inl (by decide))))
  have hj0_3 := hj0_3.kept (hq9 _ (tk_ne ht_a1 ht_b6 (Or.inl (by decide))))
  have hj0_4 := hj0_4.kept (hq9 _ (tk_ne ht_ld70 ht_b6 (Or.inl (by decide))))
  have hj0_5 := hj0_5.kept (hq9 _ (tk_ne ht_ld80 ht_b6 (Or.inl (by decide))))
  have hj0_6 := hj0_6.kept (hq9 _ (tk_ne ht_ld90 ht_b6 (Or.inl (by decide))))
  have hj0_7 := hj0_7.kept (hq9 _ (tk_ne ht_ld100 ht_b6 (Or.inl (by decide))))
  have hj0_8 := hj0_8.kept (hq9 _ (tk_ne ht_ld110 ht_b6 (Or.inl (by decide))))
  have hj0_9 := hj0_9.kept (hq9 _ (tk_ne ht_ld120 ht_b6 (Or.inl (by decide))))
  have hf1 := hf1.kept (hq9 _ (tk_ne ht_a0 ht_b6 (Or.inl (by decide))))
  refine lv_aload_n hx hb dX2_copyFrom_23 rfl (lv_at hl 1 rfl) ?_
  refine tk_get (ci := 2) (C := RX2) (T := TX2) (N := 20) (sp := (1, 21, 8, 0)) hx hb htl inX2 hown hK hG ht_a1 (by decide) tk_no rfl 2 (by decide) (htl _ mw_61) (fun _ h9 => h9) rfl dX2_copyFrom_24 (fun v9 hf8 hV9 => ?_)
  obtain ⟨b9, rfl, ht_b9⟩ := hV9
  have ht_b9 : t b9 = (21, 8, 0) := ht_b9
  refine lv_iconst (v := 0) hx hb dX2_copyFrom_27 (by decide) ?_
  refine lv_aload_n hx hb dX2_copyFrom_28 rfl (lv_at hl 0 rfl) ?_
  refine tk_get (ci := 2) (C := RX2) (T := TX2) (N := 20) (sp := (1, 21, 8, 0)) hx hb htl inX2 hown hK hG ht_a0 (by decide) tk_no rfl 2 (by decide) (htl _ mw_61) (fun _ h9 => h9) rfl dX2_copyFrom_29 (fun v9 hf10 hV9 => ?_)
  obtain ⟨b11, rfl, ht_b11⟩ := hV9
  have ht_b11 : t b11 = (21, 8, 6) := ht_b11
  refine lv_iconst (v := 0) hx hb dX2_copyFrom_32 (by decide) ?_
  refine lv_bipush (v := 8) hx hb dX2_copyFrom_33 (by decide) ?_
  refine tk_copy (SP := 0) (DP := 0) (NC := 8) hx hb (by rw [hml]; exact hl.1.symm) hown (htl _ mw_1712) (htl _ mw_655) (htl _ mw_656) (htl _ mw_657) hK hG hS ht_b9 ht_b11 (by decide) (by decide) (fun _ h => h) (fun _ => Iff.rfl) tk_no tk_no (show (0 : Int32).toInt = 0 by decide) (show (0 : Int32).toInt = 0 by decide) (show (8 : Int32).toInt = 8 by decide) (by decide) (by decide) (by decide) (by decide) (by decide) (fun _ _ _ _ h => h) (tk_w.of ht_b11 (by decide) (List.mem_of_getElem? (i := 2) rfl) (Nat.le_refl _) (Nat.le_refl _)) (Nat.le_of_ble_eq_true rfl) (Nat.le_of_ble_eq_true rfl) dX2_copyFrom_35 (fun H locs hG hS hq9 => ?_)
  have hj0_0 := hj0_0.kept (hq9 _ (tk_ne ht_a1 ht_b11 (Or.inl (by decide))))
  have hj0_1 := hj0_1.kept (hq9 _ (tk_ne ht_a1 ht_b11 (Or.inl (by decide))))
  have hj0_2 := hj0_2.kept (hq9 _ (tk_ne ht_a1 ht_b11 (Or.inl (by decide))))
  have hj0_3 := hj0_3.kept (hq9 _ (tk_ne ht_a1 ht_b11 (Or.inl (by decide))))
  have hj0_4 := hj0_4.kept (hq9 _ (tk_ne ht_ld70 ht_b11 (Or.inl (by decide))))
  have hj0_5 := hj0_5.kept (hq9 _ (tk_ne ht_ld80 ht_b11 (Or.inl (by decide))))
  have hj0_6 := hj0_6.kept (hq9 _ (tk_ne ht_ld90 ht_b11 (Or.inl (by decide))))
  have hj0_7 := hj0_7.kept (hq9 _ (tk_ne ht_ld100 ht_b11 (Or.inl (by decide))))
  have hj0_8 := hj0_8.kept (hq9 _ (tk_ne ht_ld110 ht_b11 (Or.inl (by decide))))
  have hj0_9 := hj0_9.kept (hq9 _ (tk_ne ht_ld120 ht_b11 (Or.inl (by decide))))
  have hf1 := hf1.kept (hq9 _ (tk_ne ht_a0 ht_b11 (Or.inl (by decide))))
  refine lv_aload_n hx hb dX2_copyFrom_38 rfl (lv_at hl 1 rfl) ?_
  refine tk_get (ci := 2) (C := RX2) (T := TX2) (N := 20) (sp := (11, 70, 32, 8)) hx hb htl inX2 hown hK hG ht_a1 (by decide) tk_no rfl 3 (by decide) (htl _ mw_62) (fun _ h9 => h9) rfl dX2_copyFrom_39 (fun v9 hf13 hV9 => ?_)
  obtain ⟨rfl, ht_ld70⟩ := hV9
  have ht_ld70 : t (ld 70) = (32, 8, 0) := ht_ld70
  refine fx_top (v := .ref (ld 70)) rfl ?_
  refine lv_iconst (v := 0) hx hb dX2_copyFrom_42 (by decide) ?_
  refine lv_aload_n hx hb dX2_copyFrom_43 rfl (lv_at hl 0 rfl) ?_
  refine tk_get (ci := 2) (C := RX2) (T := TX2) (N := 20) (sp := (11, 70, 32, 8)) hx hb htl inX2 hown hK hG ht_a0 (by decide) tk_no rfl 3 (by decide) (htl _ mw_62) (fun _ h9 => h9) rfl dX2_copyFrom_44 (fun v9 hf14 hV9 => ?_)
  obtain ⟨rfl, ht_ld76⟩ := hV9
  have ht_ld76 : t (ld 76) = (32, 8, 6) := ht_ld76
  refine fx_top (v := .ref (ld 76)) rfl ?_
  refine lv_iconst (v := 0) hx hb dX2_copyFrom_47 (by decide) ?_
  refine lv_bipush (v := 8) hx hb dX2_copyFrom_48 (by decide) ?_
  refine tk_copyC (SP := 0) (DP := 0) (NC := 8) hx hb (by rw [hml]; exact hl.1.symm) hown (htl _ mw_1712) (htl _ mw_655) (htl _ mw_656) (htl _ mw_657) hK hG hS ht_ld70 ht_ld76 (by decide) (by decide) (fun _ h => h) (fun _ => Iff.rfl) tk_no tk_no (show (0 : Int32).toInt = 0 by decide) (show (0 : Int32).toInt = 0 by decide) (show (8 : Int32).toInt = 8 by decide) (by decide) (by decide) (by decide) (by decide) (by decide) (fun _ _ _ _ _ => trivial) (tk_w.of ht_ld76 (by decide) (List.mem_of_getElem? (i := 3) rfl) (Nat.le_refl _) (Nat.le_refl _)) (Nat.le_of_ble_eq_true rfl) (Nat.le_of_ble_eq_true rfl) dX2_copyFrom_50 hj0_4 rfl rfl rfl (fun H locs hG hS hq9 hj16 => ?_)
  have hj0_0 := hj0_0.kept (hq9 _ (tk_ne ht_a1 ht_ld76 (Or.inl (by decide))))
  have hj0_1 := hj0_1.kept (hq9 _ (tk_ne ht_a1 ht_ld76 (Or.inl (by decide))))
  have hj0_2 := hj0_2.kept (hq9 _ (tk_ne ht_a1 ht_ld76 (Or.inl (by decide))))
  have hj0_3 := hj0_3.kept (hq9 _ (tk_ne ht_a1 ht_ld76 (Or.inl (by decide))))
  have hj0_4 := hj0_4.kept (hq9 _ (tk_ne ht_ld70 ht_ld76 (Or.inr (Or.inr (by decide)))))
  have hj0_5 := hj0_5.kept (hq9 _ (tk_ne ht_ld80 ht_ld76 (Or.inl (by decide))))
  have hj0_6 := hj0_6.kept (hq9 _ (tk_ne ht_ld90 ht_ld76 (Or.inl (by decide))))
  have hj0_7 := hj0_7.kept (hq9 _ (tk_ne ht_ld100 ht_ld76 (Or.inl (by decide))))
  have hj0_8 := hj0_8.kept (hq9 _ (tk_ne ht_ld110 ht_ld76 (Or.inl (by decide))))
  have hj0_9 := hj0_9.kept (hq9 _ (tk_ne ht_ld120 ht_ld76 (Or.inl (by decide))))
  have hf1 := hf1.kept (hq9 _ (tk_ne ht_a0 ht_ld76 (Or.inl (by decide))))
  refine lv_aload_n hx hb dX2_copyFrom_53 rfl (lv_at hl 0 rfl) ?_
  refine lv_aload_n hx hb dX2_copyFrom_54 rfl (lv_at hl 1 rfl) ?_
  refine tk_getk (ci := 2) (C := RX2) (T := TX2) (N := 20) (sp := (0, 0, 10, 0)) hx hb htl inX2 hown hK hG ht_a1 (by decide) tk_no rfl 4 (by decide) (htl _ mw_333) (fun _ h9 => h9) rfl hj0_1 dX2_copyFrom_55 ?_
  refine tk_put (ci := 2) (v := .int n1) (ty := .int) (C := RX2) (T := TX2) (N := 20) (sp := (0, 0, 10, 0)) hx hb htl inX2 tyX2 tyX2_ok nmX2 hown hK hG hS ht_a0 (by decide) tk_no rfl 4 (by decide) (htl _ mw_333) (fun _ h9 => h9) rfl (tyX2_ok 4 (by decide)) rfl rfl rfl (tk_V0 (by omega) (by omega)) (fun _ h => h) (tk_w.of ht_a0 (by decide) (List.mem_of_getElem? (i := 0) rfl) (Nat.le_refl _) (Nat.le_refl _)) dX2_copyFrom_58 (fun H locs hG hS hf17 hq9 hj9 => ?_)
  have hj0_0 := hj0_0.kept (hq9 _ (tk_ne ht_a1 ht_a0 (Or.inr (Or.inr (by decide)))))
  have hj0_1 := hj0_1.kept (hq9 _ (tk_ne ht_a1 ht_a0 (Or.inr (Or.inr (by decide)))))
  have hj0_2 := hj0_2.kept (hq9 _ (tk_ne ht_a1 ht_a0 (Or.inr (Or.inr (by decide)))))
  have hj0_3 := hj0_3.kept (hq9 _ (tk_ne ht_a1 ht_a0 (Or.inr (Or.inr (by decide)))))
  have hj0_4 := hj0_4.kept (hq9 _ (tk_ne ht_ld70 ht_a0 (Or.inl (by decide))))
  have hj0_5 := hj0_5.kept (hq9 _ (tk_ne ht_ld80 ht_a0 (Or.inl (by decide))))
  have hj0_6 := hj0_6.kept (hq9 _ (tk_ne ht_ld90 ht_a0 (Or.inl (by decide))))
  have hj0_7 := hj0_7.kept (hq9 _ (tk_ne ht_ld100 ht_a0 (Or.inl (by decide))))
  have hj0_8 := hj0_8.kept (hq9 _ (tk_ne ht_ld110 ht_a0 (Or.inl (by decide))))
  have hj0_9 := hj0_9.kept (hq9 _ (tk_ne ht_ld120 ht_a0 (Or.inl (by decide))))
  have hf1 := hj9 0 _ (by decide) (by decide) hf1
  have hj16 := hj16.kept (hq9 _ (tk_ne ht_ld76 ht_a0 (Or.inl (by decide))))
  refine lv_aload_n hx hb dX2_copyFrom_61 rfl (lv_at hl 1 rfl) ?_
  refine tk_get (ci := 2) (C := RX2) (T := TX2) (N := 20) (sp := (11, 80, 33, 10)) hx hb htl inX2 hown hK hG ht_a1 (by decide) tk_no rfl 5 (by decide) (htl _ mw_63) (fun _ h9 => h9) rfl dX2_copyFrom_62 (fun v9 hf19 hV9 => ?_)
  obtain ⟨rfl, ht_ld80⟩ := hV9
  have ht_ld80 : t (ld 80) = (33, 10, 0) := ht_ld80
  refine fx_top (v := .ref (ld 80)) rfl ?_
  refine lv_iconst (v := 0) hx hb dX2_copyFrom_65 (by decide) ?_
  refine lv_aload_n hx hb dX2_copyFrom_66 rfl (lv_at hl 0 rfl) ?_
  refine tk_get (ci := 2) (C := RX2) (T := TX2) (N := 20) (sp := (11, 80, 33, 10)) hx hb htl inX2 hown hK hG ht_a0 (by decide) tk_no rfl 5 (by decide) (htl _ mw_63) (fun _ h9 => h9) rfl dX2_copyFrom_67 (fun v9 hf20 hV9 => ?_)
  obtain ⟨rfl, ht_ld86⟩ := hV9
  have ht_ld86 : t (ld 86) = (33, 10, 6) := ht_ld86
  refine fx_top (v := .ref (ld 86)) rfl ?_
  refine lv_iconst (v := 0) hx hb dX2_copyFrom_70 (by decide) ?_
  refine lv_bipush (v := 10) hx hb dX2_copyFrom_71 (by decide) ?_
  refine tk_copyC (SP := 0) (DP := 0) (NC := 10) hx hb (by rw [hml]; exact hl.1.symm) hown (htl _ mw_1712) (htl _ mw_655) (htl _ mw_656) (htl _ mw_657) hK hG hS ht_ld80 ht_ld86 (by decide) (by decide) (fun _ h => h) (fun _ => Iff.rfl) tk_no tk_no (show (0 : Int32).toInt = 0 by decide) (show (0 : Int32).toInt = 0 by decide) (show (10 : Int32).toInt = 10 by decide) (by decide) (by decide) (by decide) (by decide) (by decide) (fun _ _ _ _ _ => trivial) (tk_w.of ht_ld86 (by decide) (List.mem_of_getElem? (i := 4) rfl) (Nat.le_refl _) (Nat.le_refl _)) (Nat.le_of_ble_eq_true rfl) (Nat.le_of_ble_eq_true rfl) dX2_copyFrom_73 hj0_5 rfl rfl rfl (fun H locs hG hS hq9 hj22 => ?_)
  have hj0_0 := hj0_0.kept (hq9 _ (tk_ne ht_a1 ht_ld86 (Or.inl (by decide))))
  have hj0_1 := hj0_1.kept (hq9 _ (tk_ne ht_a1 ht_ld86 (Or.inl (by decide))))
  have hj0_2 := hj0_2.kept (hq9 _ (tk_ne ht_a1 ht_ld86 (Or.inl (by decide))))
  have hj0_3 := hj0_3.kept (hq9 _ (tk_ne ht_a1 ht_ld86 (Or.inl (by decide))))
  have hj0_4 := hj0_4.kept (hq9 _ (tk_ne ht_ld70 ht_ld86 (Or.inl (by decide))))
  have hj0_5 := hj0_5.kept (hq9 _ (tk_ne ht_ld80 ht_ld86 (Or.inr (Or.inr (by decide)))))
  have hj0_6 := hj0_6.kept (hq9 _ (tk_ne ht_ld90 ht_ld86 (Or.inl (by decide))))
  have hj0_7 := hj0_7.kept (hq9 _ (tk_ne ht_ld100 ht_ld86 (Or.inl (by decide))))
  have hj0_8 := hj0_8.kept (hq9 _ (tk_ne ht_ld110 ht_ld86 (Or.inl (by decide))))
  have hj0_9 := hj0_9.kept (hq9 _ (tk_ne ht_ld120 ht_ld86 (Or.inl (by decide))))
  have hf1 := hf1.kept (hq9 _ (tk_ne ht_a0 ht_ld86 (Or.inl (by decide))))
  have hj16 := hj16.kept (hq9 _ (tk_ne ht_ld76 ht_ld86 (Or.inl (by decide))))
  have hf17 := hf17.kept (hq9 _ (tk_ne ht_a0 ht_ld86 (Or.inl (by decide))))
  refine lv_aload_n hx hb dX2_copyFrom_76 rfl (lv_at hl 1 rfl) ?_
  refine tk_get (ci := 2) (C := RX2) (T := TX2) (N := 20) (sp := (11, 90, 34, 10)) hx hb htl inX2 hown hK hG ht_a1 (by decide) tk_no rfl 6 (by decide) (htl _ mw_64) (fun _ h9 => h9) rfl dX2_copyFrom_77 (fun v9 hf23 hV9 => ?_)
  obtain ⟨rfl, ht_ld90⟩ := hV9
  have ht_ld90 : t (ld 90) = (34, 10, 0) := ht_ld90
  refine fx_top (v := .ref (ld 90)) rfl ?_
  refine lv_iconst (v := 0) hx hb dX2_copyFrom_80 (by decide) ?_
  refine lv_aload_n hx hb dX2_copyFrom_81 rfl (lv_at hl 0 rfl) ?_
  refine tk_get (ci := 2) (C := RX2) (T := TX2) (N := 20) (sp := (11, 90, 34, 10)) hx hb htl inX2 hown hK hG ht_a0 (by decide) tk_no rfl 6 (by decide) (htl _ mw_64) (fun _ h9 => h9) rfl dX2_copyFrom_82 (fun v9 hf24 hV9 => ?_)
  obtain ⟨rfl, ht_ld96⟩ := hV9
  have ht_ld96 : t (ld 96) = (34, 10, 6) := ht_ld96
  refine fx_top (v := .ref (ld 96)) rfl ?_
  refine lv_iconst (v := 0) hx hb dX2_copyFrom_85 (by decide) ?_
  refine lv_bipush (v := 10) hx hb dX2_copyFrom_86 (by decide) ?_
  refine tk_copyC (SP := 0) (DP := 0) (NC := 10) hx hb (by rw [hml]; exact hl.1.symm) hown (htl _ mw_1712) (htl _ mw_655) (htl _ mw_656) (htl _ mw_657) hK hG hS ht_ld90 ht_ld96 (by decide) (by decide) (fun _ h => h) (fun _ => Iff.rfl) tk_no tk_no (show (0 : Int32).toInt = 0 by decide) (show (0 : Int32).toInt = 0 by decide) (show (10 : Int32).toInt = 10 by decide) (by decide) (by decide) (by decide) (by decide) (by decide) (fun _ _ _ _ _ => trivial) (tk_w.of ht_ld96 (by decide) (List.mem_of_getElem? (i := 5) rfl) (Nat.le_refl _) (Nat.le_refl _)) (Nat.le_of_ble_eq_true rfl) (Nat.le_of_ble_eq_true rfl) dX2_copyFrom_88 hj0_6 rfl rfl rfl (fun H locs hG hS hq9 hj26 => ?_)
  have hj0_0 := hj0_0.kept (hq9 _ (tk_ne ht_a1 ht_ld96 (Or.inl (by decide))))
  have hj0_1 := hj0_1.kept (hq9 _ (tk_ne ht_a1 ht_ld96 (Or.inl (by decide))))
  have hj0_2 := hj0_2.kept (hq9 _ (tk_ne ht_a1 ht_ld96 (Or.inl (by decide))))
  have hj0_3 := hj0_3.kept (hq9 _ (tk_ne ht_a1 ht_ld96 (Or.inl (by decide))))
  have hj0_4 := hj0_4.kept (hq9 _ (tk_ne ht_ld70 ht_ld96 (Or.inl (by decide))))
  have hj0_5 := hj0_5.kept (hq9 _ (tk_ne ht_ld80 ht_ld96 (Or.inl (by decide))))
  have hj0_6 := hj0_6.kept (hq9 _ (tk_ne ht_ld90 ht_ld96 (Or.inr (Or.inr (by decide)))))
  have hj0_7 := hj0_7.kept (hq9 _ (tk_ne ht_ld100 ht_ld96 (Or.inl (by decide))))
  have hj0_8 := hj0_8.kept (hq9 _ (tk_ne ht_ld110 ht_ld96 (Or.inl (by decide))))
  have hj0_9 := hj0_9.kept (hq9 _ (tk_ne ht_ld120 ht_ld96 (Or.inl (by decide))))
  have hf1 := hf1.kept (hq9 _ (tk_ne ht_a0 ht_ld96 (Or.inl (by decide))))
  have hj16 := hj16.kept (hq9 _ (tk_ne ht_ld76 ht_ld96 (Or.inl (by decide))))
  have hf17 := hf17.kept (hq9 _ (tk_ne ht_a0 ht_ld96 (Or.inl (by decide))))
  have hj22 := hj22.kept (hq9 _ (tk_ne ht_ld86 ht_ld96 (Or.inl (by decide))))
  refine lv_aload_n hx hb dX2_copyFrom_91 rfl (lv_at hl 0 rfl) ?_
  refine lv_aload_n hx hb dX2_copyFrom_92 rfl (lv_at hl 1 rfl) ?_
  refine tk_getk (ci := 2) (C := RX2) (T := TX2) (N := 20) (sp := (0, 0, 10, 0)) hx hb htl inX2 hown hK hG ht_a1 (by decide) tk_no rfl 7 (by decide) (htl _ mw_369) (fun _ h9 => h9) rfl hj0_2 dX2_copyFrom_93 ?_
  refine tk_put (ci := 2) (v := .int n2) (ty := .int) (C := RX2) (T := TX2) (N := 20) (sp := (0, 0, 10, 0)) hx hb htl inX2 tyX2 tyX2_ok nmX2 hown hK hG hS ht_a0 (by decide) tk_no rfl 7 (by decide) (htl _ mw_369) (fun _ h9 => h9) rfl (tyX2_ok 7 (by decide)) rfl rfl rfl (tk_V0 (by omega) (by omega)) (fun _ h => h) (tk_w.of ht_a0 (by decide) (List.mem_of_getElem? (i := 0) rfl) (Nat.le_refl _) (Nat.le_refl _)) dX2_copyFrom_96 (fun H locs hG hS hf27 hq9 hj9 => ?_)
  have hj0_0 := hj0_0.kept (hq9 _ (tk_ne ht_a1 ht_a0 (Or.inr (Or.inr (by decide)))))
  have hj0_1 := hj0_1.kept (hq9 _ (tk_ne ht_a1 ht_a0 (Or.inr (Or.inr (by decide)))))
  have hj0_2 := hj0_2.kept (hq9 _ (tk_ne ht_a1 ht_a0 (Or.inr (Or.inr (by decide)))))
  have hj0_3 := hj0_3.kept (hq9 _ (tk_ne ht_a1 ht_a0 (Or.inr (Or.inr (by decide)))))
  have hj0_4 := hj0_4.kept (hq9 _ (tk_ne ht_ld70 ht_a0 (Or.inl (by decide))))
  have hj0_5 := hj0_5.kept (hq9 _ (tk_ne ht_ld80 ht_a0 (Or.inl (by decide))))
  have hj0_6 := hj0_6.kept (hq9 _ (tk_ne ht_ld90 ht_a0 (Or.inl (by decide))))
  have hj0_7 := hj0_7.kept (hq9 _ (tk_ne ht_ld100 ht_a0 (Or.inl (by decide))))
  have hj0_8 := hj0_8.kept (hq9 _ (tk_ne ht_ld110 ht_a0 (Or.inl (by decide))))
  have hj0_9 := hj0_9.kept (hq9 _ (tk_ne ht_ld120 ht_a0 (Or.inl (by decide))))
  have hf1 := hj9 0 _ (by decide) (by decide) hf1
  have hj16 := hj16.kept (hq9 _ (tk_ne ht_ld76 ht_a0 (Or.inl (by decide))))
  have hf17 := hj9 4 _ (by decide) (by decide) hf17
  have hj22 := hj22.kept (hq9 _ (tk_ne ht_ld86 ht_a0 (Or.inl (by decide))))
  have hj26 := hj26.kept (hq9 _ (tk_ne ht_ld96 ht_a0 (Or.inl (by decide))))
  refine lv_aload_n hx hb dX2_copyFrom_99 rfl (lv_at hl 1 rfl) ?_
  refine tk_get (ci := 2) (C := RX2) (T := TX2) (N := 20) (sp := (11, 100, 35, 10)) hx hb htl inX2 hown hK hG ht_a1 (by decide) tk_no rfl 8 (by decide) (htl _ mw_65) (fun _ h9 => h9) rfl dX2_copyFrom_100 (fun v9 hf29 hV9 => ?_)
  obtain ⟨rfl, ht_ld100⟩ := hV9
  have ht_ld100 : t (ld 100) = (35, 10, 0) := ht_ld100
  refine fx_top (v := .ref (ld 100)) rfl ?_
  refine lv_iconst (v := 0) hx hb dX2_copyFrom_103 (by decide) ?_
  refine lv_aload_n hx hb dX2_copyFrom_104 rfl (lv_at hl 0 rfl) ?_
  refine tk_get (ci := 2) (C := RX2) (T := TX2) (N := 20) (sp := (11, 100, 35, 10)) hx hb htl inX2 hown hK hG ht_a0 (by decide) tk_no rfl 8 (by decide) (htl _ mw_65) (fun _ h9 => h9) rfl dX2_copyFrom_105 (fun v9 hf30 hV9 => ?_)
  obtain ⟨rfl, ht_ld106⟩ := hV9
  have ht_ld106 : t (ld 106) = (35, 10, 6) := ht_ld106
  refine fx_top (v := .ref (ld 106)) rfl ?_
  refine lv_iconst (v := 0) hx hb dX2_copyFrom_108 (by decide) ?_
  refine lv_bipush (v := 10) hx hb dX2_copyFrom_109 (by decide) ?_
  refine tk_copyC (SP := 0) (DP := 0) (NC := 10) hx hb (by rw [hml]; exact hl.1.symm) hown (htl _ mw_1712) (htl _ mw_655) (htl _ mw_656) (htl _ mw_657) hK hG hS ht_ld100 ht_ld106 (by decide) (by decide) (fun _ h => h) (fun _ => Iff.rfl) tk_no tk_no (show (0 : Int32).toInt = 0 by decide) (show (0 : Int32).toInt = 0 by decide) (show (10 : Int32).toInt = 10 by decide) (by decide) (by decide) (by decide) (by decide) (by decide) (fun _ _ _ _ _ => trivial) (tk_w.of ht_ld106 (by decide) (List.mem_of_getElem? (i := 6) rfl) (Nat.le_refl _) (Nat.le_refl _)) (Nat.le_of_ble_eq_true rfl) (Nat.le_of_ble_eq_true rfl) dX2_copyFrom_111 hj0_7 rfl rfl rfl (fun H locs hG hS hq9 hj32 => ?_)
  have hj0_0 := hj0_0.kept (hq9 _ (tk_ne ht_a1 ht_ld106 (Or.inl (by decide))))
  have hj0_1 := hj0_1.kept (hq9 _ (tk_ne ht_a1 ht_ld106 (Or.inl (by decide))))
  have hj0_2 := hj0_2.kept (hq9 _ (tk_ne ht_a1 ht_ld106 (Or.inl (by decide))))
  have hj0_3 := hj0_3.kept (hq9 _ (tk_ne ht_a1 ht_ld106 (Or.inl (by decide))))
  have hj0_4 := hj0_4.kept (hq9 _ (tk_ne ht_ld70 ht_ld106 (Or.inl (by decide))))
  have hj0_5 := hj0_5.kept (hq9 _ (tk_ne ht_ld80 ht_ld106 (Or.inl (by decide))))
  have hj0_6 := hj0_6.kept (hq9 _ (tk_ne ht_ld90 ht_ld106 (Or.inl (by decide))))
  have hj0_7 := hj0_7.kept (hq9 _ (tk_ne ht_ld100 ht_ld106 (Or.inr (Or.inr (by decide)))))
  have hj0_8 := hj0_8.kept (hq9 _ (tk_ne ht_ld110 ht_ld106 (Or.inl (by decide))))
  have hj0_9 := hj0_9.kept (hq9 _ (tk_ne ht_ld120 ht_ld106 (Or.inl (by decide))))
  have hf1 := hf1.kept (hq9 _ (tk_ne ht_a0 ht_ld106 (Or.inl (by decide))))
  have hj16 := hj16.kept (hq9 _ (tk_ne ht_ld76 ht_ld106 (Or.inl (by decide))))
  have hf17 := hf17.kept (hq9 _ (tk_ne ht_a0 ht_ld106 (Or.inl (by decide))))
  have hj22 := hj22.kept (hq9 _ (tk_ne ht_ld86 ht_ld106 (Or.inl (by decide))))
  have hj26 := hj26.kept (hq9 _ (tk_ne ht_ld96 ht_ld106 (Or.inl (by decide))))
  have hf27 := hf27.kept (hq9 _ (tk_ne ht_a0 ht_ld106 (Or.inl (by decide))))
  refine lv_aload_n hx hb dX2_copyFrom_114 rfl (lv_at hl 1 rfl) ?_
  refine tk_get (ci := 2) (C := RX2) (T := TX2) (N := 20) (sp := (11, 110, 36, 10)) hx hb htl inX2 hown hK hG ht_a1 (by decide) tk_no rfl 9 (by decide) (htl _ mw_66) (fun _ h9 => h9) rfl dX2_copyFrom_115 (fun v9 hf33 hV9 => ?_)
  obtain ⟨rfl, ht_ld110⟩ := hV9
  have ht_ld110 : t (ld 110) = (36, 10, 0) := ht_ld110
  refine fx_top (v := .ref (ld 110)) rfl ?_
  refine lv_iconst (v := 0) hx hb dX2_copyFrom_118 (by decide) ?_
  refine lv_aload_n hx hb dX2_copyFrom_119 rfl (lv_at hl 0 rfl) ?_
  refine tk_get (ci := 2) (C := RX2) (T := TX2) (N := 20) (sp := (11, 110, 36, 10)) hx hb htl inX2 hown hK hG ht_a0 (by decide) tk_no rfl 9 (by decide) (htl _ mw_66) (fun _ h9 => h9) rfl dX2_copyFrom_120 (fun v9 hf34 hV9 => ?_)
  obtain ⟨rfl, ht_ld116⟩ := hV9
  have ht_ld116 : t (ld 116) = (36, 10, 6) := ht_ld116
  refine fx_top (v := .ref (ld 116)) rfl ?_
  refine lv_iconst (v := 0) hx hb dX2_copyFrom_123 (by decide) ?_
  refine lv_bipush (v := 10) hx hb dX2_copyFrom_124 (by decide) ?_
  refine tk_copyC (SP := 0) (DP := 0) (NC := 10) hx hb (by rw [hml]; exact hl.1.symm) hown (htl _ mw_1712) (htl _ mw_655) (htl _ mw_656) (htl _ mw_657) hK hG hS ht_ld110 ht_ld116 (by decide) (by decide) (fun _ h => h) (fun _ => Iff.rfl) tk_no tk_no (show (0 : Int32).toInt = 0 by decide) (show (0 : Int32).toInt = 0 by decide) (show (10 : Int32).toInt = 10 by decide) (by decide) (by decide) (by decide) (by decide) (by decide) (fun _ _ _ _ _ => trivial) (tk_w.of ht_ld116 (by decide) (List.mem_of_getElem? (i := 7) rfl) (Nat.le_refl _) (Nat.le_refl _)) (Nat.le_of_ble_eq_true rfl) (Nat.le_of_ble_eq_true rfl) dX2_copyFrom_126 hj0_8 rfl rfl rfl (fun H locs hG hS hq9 hj36 => ?_)
  have hj0_0 := hj0_0.kept (hq9 _ (tk_ne ht_a1 ht_ld116 (Or.inl (by decide))))
  have hj0_1 := hj0_1.kept (hq9 _ (tk_ne ht_a1 ht_ld116 (Or.inl (by decide))))
  have hj0_2 := hj0_2.kept (hq9 _ (tk_ne ht_a1 ht_ld116 (Or.inl (by decide))))
  have hj0_3 := hj0_3.kept (hq9 _ (tk_ne ht_a1 ht_ld116 (Or.inl (by decide))))
  have hj0_4 := hj0_4.kept (hq9 _ (tk_ne ht_ld70 ht_ld116 (Or.inl (by decide))))
  have hj0_5 := hj0_5.kept (hq9 _ (tk_ne ht_ld80 ht_ld116 (Or.inl (by decide))))
  have hj0_6 := hj0_6.kept (hq9 _ (tk_ne ht_ld90 ht_ld116 (Or.inl (by decide))))
  have hj0_7 := hj0_7.kept (hq9 _ (tk_ne ht_ld100 ht_ld116 (Or.inl (by decide))))
  have hj0_8 := hj0_8.kept (hq9 _ (tk_ne ht_ld110 ht_ld116 (Or.inr (Or.inr (by decide)))))
  have hj0_9 := hj0_9.kept (hq9 _ (tk_ne ht_ld120 ht_ld116 (Or.inl (by decide))))
  have hf1 := hf1.kept (hq9 _ (tk_ne ht_a0 ht_ld116 (Or.inl (by decide))))
  have hj16 := hj16.kept (hq9 _ (tk_ne ht_ld76 ht_ld116 (Or.inl (by decide))))
  have hf17 := hf17.kept (hq9 _ (tk_ne ht_a0 ht_ld116 (Or.inl (by decide))))
  have hj22 := hj22.kept (hq9 _ (tk_ne ht_ld86 ht_ld116 (Or.inl (by decide))))
  have hj26 := hj26.kept (hq9 _ (tk_ne ht_ld96 ht_ld116 (Or.inl (by decide))))
  have hf27 := hf27.kept (hq9 _ (tk_ne ht_a0 ht_ld116 (Or.inl (by decide))))
  have hj32 := hj32.kept (hq9 _ (tk_ne ht_ld106 ht_ld116 (Or.inl (by decide))))
  refine lv_aload_n hx hb dX2_copyFrom_129 rfl (lv_at hl 1 rfl) ?_
  refine tk_get (ci := 2) (C := RX2) (T := TX2) (N := 20) (sp := (11, 120, 37, 10)) hx hb htl inX2 hown hK hG ht_a1 (by decide) tk_no rfl 10 (by decide) (htl _ mw_67) (fun _ h9 => h9) rfl dX2_copyFrom_130 (fun v9 hf37 hV9 => ?_)
  obtain ⟨rfl, ht_ld120⟩ := hV9
  have ht_ld120 : t (ld 120) = (37, 10, 0) := ht_ld120
  refine fx_top (v := .ref (ld 120)) rfl ?_
  refine lv_iconst (v := 0) hx hb dX2_copyFrom_133 (by decide) ?_
  refine lv_aload_n hx hb dX2_copyFrom_134 rfl (lv_at hl 0 rfl) ?_
  refine tk_get (ci := 2) (C := RX2) (T := TX2) (N := 20) (sp := (11, 120, 37, 10)) hx hb htl inX2 hown hK hG ht_a0 (by decide) tk_no rfl 10 (by decide) (htl _ mw_67) (fun _ h9 => h9) rfl dX2_copyFrom_135 (fun v9 hf38 hV9 => ?_)
  obtain ⟨rfl, ht_ld126⟩ := hV9
  have ht_ld126 : t (ld 126) = (37, 10, 6) := ht_ld126
  refine fx_top (v := .ref (ld 126)) rfl ?_
  refine lv_iconst (v := 0) hx hb dX2_copyFrom_138 (by decide) ?_
  refine lv_bipush (v := 10) hx hb dX2_copyFrom_139 (by decide) ?_
  refine tk_copyC (SP := 0) (DP := 0) (NC := 10) hx hb (by rw [hml]; exact hl.1.symm) hown (htl _ mw_1712) (htl _ mw_655) (htl _ mw_656) (htl _ mw_657) hK hG hS ht_ld120 ht_ld126 (by decide) (by decide) (fun _ h => h) (fun _ => Iff.rfl) tk_no tk_no (show (0 : Int32).toInt = 0 by decide) (show (0 : Int32).toInt = 0 by decide) (show (10 : Int32).toInt = 10 by decide) (by decide) (by decide) (by decide) (by decide) (by decide) (fun _ _ _ _ _ => trivial) (tk_w.of ht_ld126 (by decide) (List.mem_of_getElem? (i := 8) rfl) (Nat.le_refl _) (Nat.le_refl _)) (Nat.le_of_ble_eq_true rfl) (Nat.le_of_ble_eq_true rfl) dX2_copyFrom_141 hj0_9 rfl rfl rfl (fun H locs hG hS hq9 hj40 => ?_)
  have hj0_0 := hj0_0.kept (hq9 _ (tk_ne ht_a1 ht_ld126 (Or.inl (by decide))))
  have hj0_1 := hj0_1.kept (hq9 _ (tk_ne ht_a1 ht_ld126 (Or.inl (by decide))))
  have hj0_2 := hj0_2.kept (hq9 _ (tk_ne ht_a1 ht_ld126 (Or.inl (by decide))))
  have hj0_3 := hj0_3.kept (hq9 _ (tk_ne ht_a1 ht_ld126 (Or.inl (by decide))))
  have hj0_4 := hj0_4.kept (hq9 _ (tk_ne ht_ld70 ht_ld126 (Or.inl (by decide))))
  have hj0_5 := hj0_5.kept (hq9 _ (tk_ne ht_ld80 ht_ld126 (Or.inl (by decide))))
  have hj0_6 := hj0_6.kept (hq9 _ (tk_ne ht_ld90 ht_ld126 (Or.inl (by decide))))
  have hj0_7 := hj0_7.kept (hq9 _ (tk_ne ht_ld100 ht_ld126 (Or.inl (by decide))))
  have hj0_8 := hj0_8.kept (hq9 _ (tk_ne ht_ld110 ht_ld126 (Or.inl (by decide))))
  have hj0_9 := hj0_9.kept (hq9 _ (tk_ne ht_ld120 ht_ld126 (Or.inr (Or.inr (by decide)))))
  have hf1 := hf1.kept (hq9 _ (tk_ne ht_a0 ht_ld126 (Or.inl (by decide))))
  have hj16 := hj16.kept (hq9 _ (tk_ne ht_ld76 ht_ld126 (Or.inl (by decide))))
  have hf17 := hf17.kept (hq9 _ (tk_ne ht_a0 ht_ld126 (Or.inl (by decide))))
  have hj22 := hj22.kept (hq9 _ (tk_ne ht_ld86 ht_ld126 (Or.inl (by decide))))
  have hj26 := hj26.kept (hq9 _ (tk_ne ht_ld96 ht_ld126 (Or.inl (by decide))))
  have hf27 := hf27.kept (hq9 _ (tk_ne ht_a0 ht_ld126 (Or.inl (by decide))))
  have hj32 := hj32.kept (hq9 _ (tk_ne ht_ld106 ht_ld126 (Or.inl (by decide))))
  have hj36 := hj36.kept (hq9 _ (tk_ne ht_ld116 ht_ld126 (Or.inl (by decide))))
  refine lv_aload_n hx hb dX2_copyFrom_144 rfl (lv_at hl 0 rfl) ?_
  refine lv_aload_n hx hb dX2_copyFrom_145 rfl (lv_at hl 1 rfl) ?_
  refine tk_getk (ci := 2) (C := RX2) (T := TX2) (N := 20) (sp := (0, 0, 8, 0)) hx hb htl inX2 hown hK hG ht_a1 (by decide) tk_no rfl 11 (by decide) (htl _ mw_1489) (fun _ h9 => h9) rfl hj0_3 dX2_copyFrom_146 ?_
  refine tk_put (ci := 2) (v := .int n3) (ty := .int) (C := RX2) (T := TX2) (N := 20) (sp := (0, 0, 8, 0)) hx hb htl inX2 tyX2 tyX2_ok nmX2 hown hK hG hS ht_a0 (by decide) tk_no rfl 11 (by decide) (htl _ mw_1489) (fun _ h9 => h9) rfl (tyX2_ok 11 (by decide)) rfl rfl rfl (tk_V0 (by omega) (by omega)) (fun _ h => h) (tk_w.of ht_a0 (by decide) (List.mem_of_getElem? (i := 0) rfl) (Nat.le_refl _) (Nat.le_refl _)) dX2_copyFrom_149 (fun H locs hG hS hf41 hq9 hj9 => ?_)
  have hj0_0 := hj0_0.kept (hq9 _ (tk_ne ht_a1 ht_a0 (Or.inr (Or.inr (by decide)))))
  have hj0_1 := hj0_1.kept (hq9 _ (tk_ne ht_a1 ht_a0 (Or.inr (Or.inr (by decide)))))
  have hj0_2 := hj0_2.kept (hq9 _ (tk_ne ht_a1 ht_a0 (Or.inr (Or.inr (by decide)))))
  have hj0_3 := hj0_3.kept (hq9 _ (tk_ne ht_a1 ht_a0 (Or.inr (Or.inr (by decide)))))
  have hj0_4 := hj0_4.kept (hq9 _ (tk_ne ht_ld70 ht_a0 (Or.inl (by decide))))
  have hj0_5 := hj0_5.kept (hq9 _ (tk_ne ht_ld80 ht_a0 (Or.inl (by decide))))
  have hj0_6 := hj0_6.kept (hq9 _ (tk_ne ht_ld90 ht_a0 (Or.inl (by decide))))
  have hj0_7 := hj0_7.kept (hq9 _ (tk_ne ht_ld100 ht_a0 (Or.inl (by decide))))
  have hj0_8 := hj0_8.kept (hq9 _ (tk_ne ht_ld110 ht_a0 (Or.inl (by decide))))
  have hj0_9 := hj0_9.kept (hq9 _ (tk_ne ht_ld120 ht_a0 (Or.inl (by decide))))
  have hf1 := hj9 0 _ (by decide) (by decide) hf1
  have hj16 := hj16.kept (hq9 _ (tk_ne ht_ld76 ht_a0 (Or.inl (by decide))))
  have hf17 := hj9 4 _ (by decide) (by decide) hf17
  have hj22 := hj22.kept (hq9 _ (tk_ne ht_ld86 ht_a0 (Or.inl (by decide))))
  have hj26 := hj26.kept (hq9 _ (tk_ne ht_ld96 ht_a0 (Or.inl (by decide))))
  have hf27 := hj9 7 _ (by decide) (by decide) hf27
  have hj32 := hj32.kept (hq9 _ (tk_ne ht_ld106 ht_a0 (Or.inl (by decide))))
  have hj36 := hj36.kept (hq9 _ (tk_ne ht_ld116 ht_a0 (Or.inl (by decide))))
  have hj40 := hj40.kept (hq9 _ (tk_ne ht_ld126 ht_a0 (Or.inl (by decide))))
  refine lv_aload_n hx hb dX2_copyFrom_152 rfl (lv_at hl 1 rfl) ?_
  refine tk_get (ci := 2) (C := RX2) (T := TX2) (N := 20) (sp := (1, 24, 40, 0)) hx hb htl inX2 hown hK hG ht_a1 (by decide) tk_no rfl 12 (by decide) (htl _ mw_68) (fun _ h9 => h9) rfl dX2_copyFrom_153 (fun v9 hf43 hV9 => ?_)
  obtain ⟨b44, rfl, ht_b44⟩ := hV9
  have ht_b44 : t b44 = (24, 40, 0) := ht_b44
  refine lv_iconst (v := 0) hx hb dX2_copyFrom_156 (by decide) ?_
  refine lv_aload_n hx hb dX2_copyFrom_157 rfl (lv_at hl 0 rfl) ?_
  refine tk_get (ci := 2) (C := RX2) (T := TX2) (N := 20) (sp := (1, 24, 40, 0)) hx hb htl inX2 hown hK hG ht_a0 (by decide) tk_no rfl 12 (by decide) (htl _ mw_68) (fun _ h9 => h9) rfl dX2_copyFrom_158 (fun v9 hf45 hV9 => ?_)
  obtain ⟨b46, rfl, ht_b46⟩ := hV9
  have ht_b46 : t b46 = (24, 40, 6) := ht_b46
  refine lv_iconst (v := 0) hx hb dX2_copyFrom_161 (by decide) ?_
  refine lv_aload_n hx hb dX2_copyFrom_162 rfl (lv_at hl 0 rfl) ?_
  refine tk_get (ci := 2) (C := RX2) (T := TX2) (N := 20) (sp := (1, 24, 40, 0)) hx hb htl inX2 hown hK hG ht_a0 (by decide) tk_no rfl 12 (by decide) (htl _ mw_68) (fun _ h9 => h9) rfl dX2_copyFrom_163 (fun v9 hf47 hV9 => ?_)
  obtain ⟨b48, rfl, ht_b48⟩ := hV9
  have ht_b48 : t b48 = (24, 40, 6) := ht_b48
  refine tk_alen hx hb hK hG 0 rfl ht_b48 (by decide) (fun _ h => by obtain ⟨f, h, _⟩ := h; exact ⟨_, h⟩) tk_no (by decide) dX2_copyFrom_166 (fun z hz => ?_)
  obtain rfl : z = 40 := (fi_eq hz (by decide)).mpr rfl
  refine tk_copy (SP := 0) (DP := 0) (NC := 40) hx hb (by rw [hml]; exact hl.1.symm) hown (htl _ mw_1712) (htl _ mw_655) (htl _ mw_656) (htl _ mw_657) hK hG hS ht_b44 ht_b46 (by decide) (by decide) (fun _ h => h) (fun _ => Iff.rfl) tk_no tk_no (show (0 : Int32).toInt = 0 by decide) (show (0 : Int32).toInt = 0 by decide) (show (40 : Int32).toInt = 40 by decide) (by decide) (by decide) (by decide) (by decide) (by decide) (fun _ _ _ _ h => h) (tk_w.of ht_b46 (by decide) (List.mem_of_getElem? (i := 9) rfl) (Nat.le_refl _) (Nat.le_refl _)) (Nat.le_of_ble_eq_true rfl) (Nat.le_of_ble_eq_true rfl) dX2_copyFrom_167 (fun H locs hG hS hq9 => ?_)
  have hj0_0 := hj0_0.kept (hq9 _ (tk_ne ht_a1 ht_b46 (Or.inl (by decide))))
  have hj0_1 := hj0_1.kept (hq9 _ (tk_ne ht_a1 ht_b46 (Or.inl (by decide))))
  have hj0_2 := hj0_2.kept (hq9 _ (tk_ne ht_a1 ht_b46 (Or.inl (by decide))))
  have hj0_3 := hj0_3.kept (hq9 _ (tk_ne ht_a1 ht_b46 (Or.inl (by decide))))
  have hj0_4 := hj0_4.kept (hq9 _ (tk_ne ht_ld70 ht_b46 (Or.inl (by decide))))
  have hj0_5 := hj0_5.kept (hq9 _ (tk_ne ht_ld80 ht_b46 (Or.inl (by decide))))
  have hj0_6 := hj0_6.kept (hq9 _ (tk_ne ht_ld90 ht_b46 (Or.inl (by decide))))
  have hj0_7 := hj0_7.kept (hq9 _ (tk_ne ht_ld100 ht_b46 (Or.inl (by decide))))
  have hj0_8 := hj0_8.kept (hq9 _ (tk_ne ht_ld110 ht_b46 (Or.inl (by decide))))
  have hj0_9 := hj0_9.kept (hq9 _ (tk_ne ht_ld120 ht_b46 (Or.inl (by decide))))
  have hf1 := hf1.kept (hq9 _ (tk_ne ht_a0 ht_b46 (Or.inl (by decide))))
  have hj16 := hj16.kept (hq9 _ (tk_ne ht_ld76 ht_b46 (Or.inl (by decide))))
  have hf17 := hf17.kept (hq9 _ (tk_ne ht_a0 ht_b46 (Or.inl (by decide))))
  have hj22 := hj22.kept (hq9 _ (tk_ne ht_ld86 ht_b46 (Or.inl (by decide))))
  have hj26 := hj26.kept (hq9 _ (tk_ne ht_ld96 ht_b46 (Or.inl (by decide))))
  have hf27 := hf27.kept (hq9 _ (tk_ne ht_a0 ht_b46 (Or.inl (by decide))))
  have hj32 := hj32.kept (hq9 _ (tk_ne ht_ld106 ht_b46 (Or.inl (by decide))))
  have hj36 := hj36.kept (hq9 _ (tk_ne ht_ld116 ht_b46 (Or.inl (by decide))))
  have hj40 := hj40.kept (hq9 _ (tk_ne ht_ld126 ht_b46 (Or.inl (by decide))))
  have hf41 := hf41.kept (hq9 _ (tk_ne ht_a0 ht_b46 (Or.inl (by decide))))
  refine lv_aload_n hx hb dX2_copyFrom_170 rfl (lv_at hl 0 rfl) ?_
  refine lv_aload_n hx hb dX2_copyFrom_171 rfl (lv_at hl 1 rfl) ?_
  refine tk_get (ci := 2) (C := RX2) (T := TX2) (N := 20) (sp := (0, 0, 6, 0)) hx hb htl inX2 hown hK hG ht_a1 (by decide) tk_no rfl 13 (by decide) (htl _ mw_663) (fun _ h9 => h9) rfl dX2_copyFrom_172 (fun v9 hf50 hV9 => ?_)
  obtain ⟨v51, rfl, (ha_v51 : 0 ≤ v51.toInt), (hb_v51 : v51.toInt ≤ 6)⟩ := hV9
  refine tk_put (ci := 2) (v := .int v51) (ty := .int) (C := RX2) (T := TX2) (N := 20) (sp := (0, 0, 6, 0)) hx hb htl inX2 tyX2 tyX2_ok nmX2 hown hK hG hS ht_a0 (by decide) tk_no rfl 13 (by decide) (htl _ mw_663) (fun _ h9 => h9) rfl (tyX2_ok 13 (by decide)) rfl rfl rfl (tk_V0 (by omega) (by omega)) (fun _ h => h) (tk_w.of ht_a0 (by decide) (List.mem_of_getElem? (i := 0) rfl) (Nat.le_refl _) (Nat.le_refl _)) dX2_copyFrom_175 (fun H locs hG hS hf52 hq9 hj9 => ?_)
  have hj0_0 := hj0_0.kept (hq9 _ (tk_ne ht_a1 ht_a0 (Or.inr (Or.inr (by decide)))))
  have hj0_1 := hj0_1.kept (hq9 _ (tk_ne ht_a1 ht_a0 (Or.inr (Or.inr (by decide)))))
  have hj0_2 := hj0_2.kept (hq9 _ (tk_ne ht_a1 ht_a0 (Or.inr (Or.inr (by decide)))))
  have hj0_3 := hj0_3.kept (hq9 _ (tk_ne ht_a1 ht_a0 (Or.inr (Or.inr (by decide)))))
  have hj0_4 := hj0_4.kept (hq9 _ (tk_ne ht_ld70 ht_a0 (Or.inl (by decide))))
  have hj0_5 := hj0_5.kept (hq9 _ (tk_ne ht_ld80 ht_a0 (Or.inl (by decide))))
  have hj0_6 := hj0_6.kept (hq9 _ (tk_ne ht_ld90 ht_a0 (Or.inl (by decide))))
  have hj0_7 := hj0_7.kept (hq9 _ (tk_ne ht_ld100 ht_a0 (Or.inl (by decide))))
  have hj0_8 := hj0_8.kept (hq9 _ (tk_ne ht_ld110 ht_a0 (Or.inl (by decide))))
  have hj0_9 := hj0_9.kept (hq9 _ (tk_ne ht_ld120 ht_a0 (Or.inl (by decide))))
  have hf1 := hj9 0 _ (by decide) (by decide) hf1
  have hj16 := hj16.kept (hq9 _ (tk_ne ht_ld76 ht_a0 (Or.inl (by decide))))
  have hf17 := hj9 4 _ (by decide) (by decide) hf17
  have hj22 := hj22.kept (hq9 _ (tk_ne ht_ld86 ht_a0 (Or.inl (by decide))))
  have hj26 := hj26.kept (hq9 _ (tk_ne ht_ld96 ht_a0 (Or.inl (by decide))))
  have hf27 := hj9 7 _ (by decide) (by decide) hf27
  have hj32 := hj32.kept (hq9 _ (tk_ne ht_ld106 ht_a0 (Or.inl (by decide))))
  have hj36 := hj36.kept (hq9 _ (tk_ne ht_ld116 ht_a0 (Or.inl (by decide))))
  have hj40 := hj40.kept (hq9 _ (tk_ne ht_ld126 ht_a0 (Or.inl (by decide))))
  have hf41 := hj9 11 _ (by decide) (by decide) hf41
  have hf50 := hf50.kept (hq9 _ (tk_ne ht_a1 ht_a0 (Or.inr (Or.inr (by decide)))))
  refine lv_iconst (v := 0) hx hb dX2_copyFrom_178 (by decide) ?_
  refine lv_istore_n (lv' := [(2, .int 0), (0, .ref a0), (1, .ref a1)]) hx hb dX2_copyFrom_179 rfl hl (by decide) rfl (fun ls hl => ?_)
  have hl376 : ∀ (N_l376 : Nat) (v54 : Int32) (H : Heap) (locs : List Loc), v54.toInt ≤ 6 → 0 ≤ v54.toInt → (-1) * v54.toInt + 6 < (N_l376 : Int) → tk_G D cy ld t [] H → va_S (tk_w t [(3, 6, 6), (20, 6, 6), (21, 6, 6), (32, 6, 6), (33, 6, 6), (34, 6, 6), (35, 6, 6), (36, 6, 6), (37, 6, 6), (24, 6, 6), (28, 6, 6), (10, 6, 6)]) s.heap H locs → tk_f D H a1 2 0 (.int n0) → tk_f D H a1 2 4 (.int n1) → tk_f D H a1 2 7 (.int n2) → tk_f D H a1 2 11 (.int n3) → tk_c H (ld 70) 8 fh → tk_c H (ld 80) 10 fs → tk_c H (ld 90) 10 fk → tk_c H (ld 100) 10 q1 → tk_c H (ld 110) 10 q2 → tk_c H (ld 120) 10 q3 → tk_f D H a0 2 0 (.int n0) → tk_c H (ld 76) 8 fh → tk_f D H a0 2 4 (.int n1) → tk_c H (ld 86) 10 fs → tk_c H (ld 96) 10 fk → tk_f D H a0 2 7 (.int n2) → tk_c H (ld 106) 10 q1 → tk_c H (ld 116) 10 q2 → tk_c H (ld 126) 10 q3 → tk_f D H a0 2 11 (.int n3) → tk_f D H a1 2 13 (.int v51) → tk_f D H a0 2 13 (.int v51) → ∀ ls : Array Slot, lv_has ls 3 [(2, .int v54), (0, .ref a0), (1, .ref a1)] → W p l e ({ frames := 5, cells := 0, slots := 0, locals := 280 }) s m args below meth c H locs 0 0 (MQ below (tv D cy ld t [] (fun H => jC D ld a1 0 n0 n1 n2 n3 fh fs fk q1 q2 q3 H ∧ jC D ld a0 6 n0 n1 n2 n3 fh fs fk q1 q2 q3 H) (tk_w t [(3, 6, 6), (20, 6, 6), (21, 6, 6), (32, 6, 6), (33, 6, 6), (34, 6, 6), (35, 6, 6), (36, 6, 6), (37, 6, 6), (24, 6, 6), (28, 6, 6), (10, 6, 6)])) args s 0 0 (tk_w t [(3, 6, 6), (20, 6, 6), (21, 6, 6), (32, 6, 6), (33, 6, 6), (34, 6, 6), (35, 6, 6), (36, 6, 6), (37, 6, 6), (24, 6, 6), (28, 6, 6), (10, 6, 6)])) (F0 m 180 ls []) := by
    intro N_l376
    induction N_l376 with
    | zero => intro v54 H locs hq0_l376 hq1_l376 hm_l376 hG hS hj0_0 hj0_1 hj0_2 hj0_3 hj0_4 hj0_5 hj0_6 hj0_7 hj0_8 hj0_9 hf1 hj16 hf17 hj22 hj26 hf27 hj32 hj36 hj40 hf41 hf50 hf52 ls hl; exfalso; omega
    | succ N_l376 ih_l376 =>
      intro v54 H locs hq0_l376 hq1_l376 hm_l376 hG hS hj0_0 hj0_1 hj0_2 hj0_3 hj0_4 hj0_5 hj0_6 hj0_7 hj0_8 hj0_9 hf1 hj16 hf17 hj22 hj26 hf27 hj32 hj36 hj40 hf41 hf50 hf52 ls hl
      refine lv_iload_n hx hb dX2_copyFrom_180 rfl (lv_at hl 0 rfl) ?_
      refine lv_bipush (v := 6) hx hb dX2_copyFrom_181 (by decide) ?_
      refine lv_icmp_ge (tgt := 204) hx hb dX2_copyFrom_183 (by decide) (fun c9 => ?_) (fun c9 => ?_)
      · have hc377 : 6 ≤ v54.toInt := (fi_le (show (6 : Int32).toInt = 6 by decide) rfl).mp c9
        refine lv_aload_n hx hb dX2_copyFrom_204 rfl (lv_at hl 1 rfl) ?_
        refine lv_aload_n hx hb dX2_copyFrom_205 rfl (lv_at hl 2 rfl) ?_
        refine tk_get (ci := 2) (C := RX2) (T := TX2) (N := 20) (sp := (0, (-2147483648), 2147483647, 0)) hx hb htl inX2 hown hK hG ht_a1 (by decide) tk_no rfl 15 (by decide) (htl _ mw_71) (fun _ h9 => h9) rfl dX2_copyFrom_206 (fun v9 hf392 hV9 => ?_)
        obtain ⟨v393, rfl, (ha_v393 : (-2147483648) ≤ v393.toInt), (hb_v393 : v393.toInt ≤ 2147483647)⟩ := hV9
        refine tk_put (ci := 2) (v := .int v393) (ty := .int) (C := RX2) (T := TX2) (N := 20) (sp := (0, (-2147483648), 2147483647, 0)) hx hb htl inX2 tyX2 tyX2_ok nmX2 hown hK hG hS ht_a0 (by decide) tk_no rfl 15 (by decide) (htl _ mw_71) (fun _ h9 => h9) rfl (tyX2_ok 15 (by decide)) rfl rfl rfl (tk_V0 (tk_rng _).1 (tk_rng _).2) (fun _ h => h) (tk_w.of ht_a0 (by decide) (List.mem_of_getElem? (i := 0) rfl) (Nat.le_refl _) (Nat.le_refl _)) dX2_copyFrom_209 (fun H locs hG hS hf394 hq9 hj9 => ?_)
        have hj0_0 := hj0_0.kept (hq9 _ (tk_ne ht_a1 ht_a0 (Or.inr (Or.inr (by decide)))))
        have hj0_1 := hj0_1.kept (hq9 _ (tk_ne ht_a1 ht_a0 (Or.inr (Or.inr (by decide)))))
        have hj0_2 := hj0_2.kept (hq9 _ (tk_ne ht_a1 ht_a0 (Or.inr (Or.inr (by decide)))))
        have hj0_3 := hj0_3.kept (hq9 _ (tk_ne ht_a1 ht_a0 (Or.inr (Or.inr (by decide)))))
        have hj0_4 := hj0_4.kept (hq9 _ (tk_ne ht_ld70 ht_a0 (Or.inl (by decide))))
        have hj0_5 := hj0_5.kept (hq9 _ (tk_ne ht_ld80 ht_a0 (Or.inl (by decide))))
        have hj0_6 := hj0_6.kept (hq9 _ (tk_ne ht_ld90 ht_a0 (Or.inl (by decide))))
        have hj0_7 := hj0_7.kept (hq9 _ (tk_ne ht_ld100 ht_a0 (Or.inl (by decide))))
        have hj0_8 := hj0_8.kept (hq9 _ (tk_ne ht_ld110 ht_a0 (Or.inl (by decide))))
        have hj0_9 := hj0_9.kept (hq9 _ (tk_ne ht_ld120 ht_a0 (Or.inl (by decide))))
        have hf1 := hj9 0 _ (by decide) (by decide) hf1
        have hj16 := hj16.kept (hq9 _ (tk_ne ht_ld76 ht_a0 (Or.inl (by decide))))
        have hf17 := hj9 4 _ (by decide) (by decide) hf17
        have hj22 := hj22.kept (hq9 _ (tk_ne ht_ld86 ht_a0 (Or.inl (by decide))))
        have hj26 := hj26.kept (hq9 _ (tk_ne ht_ld96 ht_a0 (Or.inl (by decide))))
        have hf27 := hj9 7 _ (by decide) (by decide) hf27
        have hj32 := hj32.kept (hq9 _ (tk_ne ht_ld106 ht_a0 (Or.inl (by decide))))
        have hj36 := hj36.kept (hq9 _ (tk_ne ht_ld116 ht_a0 (Or.inl (by decide))))
        have hj40 := hj40.kept (hq9 _ (tk_ne ht_ld126 ht_a0 (Or.inl (by decide))))
        have hf41 := hj9 11 _ (by decide) (by decide) hf41
        have hf50 := hf50.kept (hq9 _ (tk_ne ht_a1 ht_a0 (Or.inr (Or.inr (by decide)))))
        have hf52 := hj9 13 _ (by decide) (by decide) hf52
        have hf392 := hf392.kept (hq9 _ (tk_ne ht_a1 ht_a0 (Or.inr (Or.inr (by decide)))))
        refine lv_aload_n hx hb dX2_copyFrom_212 rfl (lv_at hl 1 rfl) ?_
        refine lv_aload_n hx hb dX2_copyFrom_213 rfl (lv_at hl 2 rfl) ?_
        refine tk_get (ci := 2) (C := RX2) (T := TX2) (N := 20) (sp := (0, (-2147483648), 2147483647, 0)) hx hb htl inX2 hown hK hG ht_a1 (by decide) tk_no rfl 16 (by decide) (htl _ mw_72) (fun _ h9 => h9) rfl dX2_copyFrom_214 (fun v9 hf396 hV9 => ?_)
        obtain ⟨v397, rfl, (ha_v397 : (-2147483648) ≤ v397.toInt), (hb_v397 : v397.toInt ≤ 2147483647)⟩ := hV9
        refine tk_put (ci := 2) (v := .int v397) (ty := .int) (C := RX2) (T := TX2) (N := 20) (sp := (0, (-2147483648), 2147483647, 0)) hx hb htl inX2 tyX2 tyX2_ok nmX2 hown hK hG hS ht_a0 (by decide) tk_no rfl 16 (by decide) (htl _ mw_72) (fun _ h9 => h9) rfl (tyX2_ok 16 (by decide)) rfl rfl rfl (tk_V0 (tk_rng _).1 (tk_rng _).2) (fun _ h => h) (tk_w.of ht_a0 (by decide) (List.mem_of_getElem? (i := 0) rfl) (Nat.le_refl _) (Nat.le_refl _)) dX2_copyFrom_217 (fun H locs hG hS hf398 hq9 hj9 => ?_)
        have hj0_0 := hj0_0.kept (hq9 _ (tk_ne ht_a1 ht_a0 (Or.inr (Or.inr (by decide)))))
        have hj0_1 := hj0_1.kept (hq9 _ (tk_ne ht_a1 ht_a0 (Or.inr (Or.inr (by decide)))))
        have hj0_2 := hj0_2.kept (hq9 _ (tk_ne ht_a1 ht_a0 (Or.inr (Or.inr (by decide)))))
        have hj0_3 := hj0_3.kept (hq9 _ (tk_ne ht_a1 ht_a0 (Or.inr (Or.inr (by decide)))))
        have hj0_4 := hj0_4.kept (hq9 _ (tk_ne ht_ld70 ht_a0 (Or.inl (by decide))))
        have hj0_5 := hj0_5.kept (hq9 _ (tk_ne ht_ld80 ht_a0 (Or.inl (by decide))))
        have hj0_6 := hj0_6.kept (hq9 _ (tk_ne ht_ld90 ht_a0 (Or.inl (by decide))))
        have hj0_7 := hj0_7.kept (hq9 _ (tk_ne ht_ld100 ht_a0 (Or.inl (by decide))))
        have hj0_8 := hj0_8.kept (hq9 _ (tk_ne ht_ld110 ht_a0 (Or.inl (by decide))))
        have hj0_9 := hj0_9.kept (hq9 _ (tk_ne ht_ld120 ht_a0 (Or.inl (by decide))))
        have hf1 := hj9 0 _ (by decide) (by decide) hf1
        have hj16 := hj16.kept (hq9 _ (tk_ne ht_ld76 ht_a0 (Or.inl (by decide))))
        have hf17 := hj9 4 _ (by decide) (by decide) hf17
        have hj22 := hj22.kept (hq9 _ (tk_ne ht_ld86 ht_a0 (Or.inl (by decide))))
        have hj26 := hj26.kept (hq9 _ (tk_ne ht_ld96 ht_a0 (Or.inl (by decide))))
        have hf27 := hj9 7 _ (by decide) (by decide) hf27
        have hj32 := hj32.kept (hq9 _ (tk_ne ht_ld106 ht_a0 (Or.inl (by decide))))
        have hj36 := hj36.kept (hq9 _ (tk_ne ht_ld116 ht_a0 (Or.inl (by decide))))
        have hj40 := hj40.kept (hq9 _ (tk_ne ht_ld126 ht_a0 (Or.inl (by decide))))
        have hf41 := hj9 11 _ (by decide) (by decide) hf41
        have hf50 := hf50.kept (hq9 _ (tk_ne ht_a1 ht_a0 (Or.inr (Or.inr (by decide)))))
        have hf52 := hj9 13 _ (by decide) (by decide) hf52
        have hf392 := hf392.kept (hq9 _ (tk_ne ht_a1 ht_a0 (Or.inr (Or.inr (by decide)))))
        have hf394 := hj9 15 _ (by decide) (by decide) hf394
        refine lv_aload_n hx hb dX2_copyFrom_220 rfl (lv_at hl 1 rfl) ?_
        refine lv_aload_n hx hb dX2_copyFrom_221 rfl (lv_at hl 2 rfl) ?_
        refine tk_get (ci := 2) (C := RX2) (T := TX2) (N := 20) (sp := (0, (-2147483648), 2147483647, 0)) hx hb htl inX2 hown hK hG ht_a1 (by decide) tk_no rfl 17 (by decide) (htl _ mw_73) (fun _ h9 => h9) rfl dX2_copyFrom_222 (fun v9 hf400 hV9 => ?_)
        obtain ⟨v401, rfl, (ha_v401 : (-2147483648) ≤ v401.toInt), (hb_v401 : v401.toInt ≤ 2147483647)⟩ := hV9
        refine tk_put (ci := 2) (v := .int v401) (ty := .int) (C := RX2) (T := TX2) (N := 20) (sp := (0, (-2147483648), 2147483647, 0)) hx hb htl inX2 tyX2 tyX2_ok nmX2 hown hK hG hS ht_a0 (by decide) tk_no rfl 17 (by decide) (htl _ mw_73) (fun _ h9 => h9) rfl (tyX2_ok 17 (by decide)) rfl rfl rfl (tk_V0 (tk_rng _).1 (tk_rng _).2) (fun _ h => h) (tk_w.of ht_a0 (by decide) (List.mem_of_getElem? (i := 0) rfl) (Nat.le_refl _) (Nat.le_refl _)) dX2_copyFrom_225 (fun H locs hG hS hf402 hq9 hj9 => ?_)
        have hj0_0 := hj0_0.kept (hq9 _ (tk_ne ht_a1 ht_a0 (Or.inr (Or.inr (by decide)))))
        have hj0_1 := hj0_1.kept (hq9 _ (tk_ne ht_a1 ht_a0 (Or.inr (Or.inr (by decide)))))
        have hj0_2 := hj0_2.kept (hq9 _ (tk_ne ht_a1 ht_a0 (Or.inr (Or.inr (by decide)))))
        have hj0_3 := hj0_3.kept (hq9 _ (tk_ne ht_a1 ht_a0 (Or.inr (Or.inr (by decide)))))
        have hj0_4 := hj0_4.kept (hq9 _ (tk_ne ht_ld70 ht_a0 (Or.inl (by decide))))
        have hj0_5 := hj0_5.kept (hq9 _ (tk_ne ht_ld80 ht_a0 (Or.inl (by decide))))
        have hj0_6 := hj0_6.kept (hq9 _ (tk_ne ht_ld90 ht_a0 (Or.inl (by decide))))
        have hj0_7 := hj0_7.kept (hq9 _ (tk_ne ht_ld100 ht_a0 (Or.inl (by decide))))
        have hj0_8 := hj0_8.kept (hq9 _ (tk_ne ht_ld110 ht_a0 (Or.inl (by decide))))
        have hj0_9 := hj0_9.kept (hq9 _ (tk_ne ht_ld120 ht_a0 (Or.inl (by decide))))
        have hf1 := hj9 0 _ (by decide) (by decide) hf1
        have hj16 := hj16.kept (hq9 _ (tk_ne ht_ld76 ht_a0 (Or.inl (by decide))))
        have hf17 := hj9 4 _ (by decide) (by decide) hf17
        have hj22 := hj22.kept (hq9 _ (tk_ne ht_ld86 ht_a0 (Or.inl (by decide))))
        have hj26 := hj26.kept (hq9 _ (tk_ne ht_ld96 ht_a0 (Or.inl (by decide))))
        have hf27 := hj9 7 _ (by decide) (by decide) hf27
        have hj32 := hj32.kept (hq9 _ (tk_ne ht_ld106 ht_a0 (Or.inl (by decide))))
        have hj36 := hj36.kept (hq9 _ (tk_ne ht_ld116 ht_a0 (Or.inl (by decide))))
        have hj40 := hj40.kept (hq9 _ (tk_ne ht_ld126 ht_a0 (Or.inl (by decide))))
        have hf41 := hj9 11 _ (by decide) (by decide) hf41
        have hf50 := hf50.kept (hq9 _ (tk_ne ht_a1 ht_a0 (Or.inr (Or.inr (by decide)))))
        have hf52 := hj9 13 _ (by decide) (by decide) hf52
        have hf392 := hf392.kept (hq9 _ (tk_ne ht_a1 ht_a0 (Or.inr (Or.inr (by decide)))))
        have hf394 := hj9 15 _ (by decide) (by decide) hf394
        refine lv_aload_n hx hb dX2_copyFrom_228 rfl (lv_at hl 1 rfl) ?_
        refine lv_aload_n hx hb dX2_copyFrom_229 rfl (lv_at hl 2 rfl) ?_
        refine tk_get (ci := 2) (C := RX2) (T := TX2) (N := 20) (sp := (0, (-2147483648), 2147483647, 0)) hx hb htl inX2 hown hK hG ht_a1 (by decide) tk_no rfl 18 (by decide) (htl _ mw_409) (fun _ h9 => h9) rfl dX2_copyFrom_230 (fun v9 hf404 hV9 => ?_)
        obtain ⟨v405, rfl, (ha_v405 : (-2147483648) ≤ v405.toInt), (hb_v405 : v405.toInt ≤ 2147483647)⟩ := hV9
        refine tk_put (ci := 2) (v := .int v405) (ty := .int) (C := RX2) (T := TX2) (N := 20) (sp := (0, (-2147483648), 2147483647, 0)) hx hb htl inX2 tyX2 tyX2_ok nmX2 hown hK hG hS ht_a0 (by decide) tk_no rfl 18 (by decide) (htl _ mw_409) (fun _ h9 => h9) rfl (tyX2_ok 18 (by decide)) rfl rfl rfl (tk_V0 (tk_rng _).1 (tk_rng _).2) (fun _ h => h) (tk_w.of ht_a0 (by decide) (List.mem_of_getElem? (i := 0) rfl) (Nat.le_refl _) (Nat.le_refl _)) dX2_copyFrom_233 (fun H locs hG hS hf406 hq9 hj9 => ?_)
        have hj0_0 := hj0_0.kept (hq9 _ (tk_ne ht_a1 ht_a0 (Or.inr (Or.inr (by decide)))))
        have hj0_1 := hj0_1.kept (hq9 _ (tk_ne ht_a1 ht_a0 (Or.inr (Or.inr (by decide)))))
        have hj0_2 := hj0_2.kept (hq9 _ (tk_ne ht_a1 ht_a0 (Or.inr (Or.inr (by decide)))))
        have hj0_3 := hj0_3.kept (hq9 _ (tk_ne ht_a1 ht_a0 (Or.inr (Or.inr (by decide)))))
        have hj0_4 := hj0_4.kept (hq9 _ (tk_ne ht_ld70 ht_a0 (Or.inl (by decide))))
        have hj0_5 := hj0_5.kept (hq9 _ (tk_ne ht_ld80 ht_a0 (Or.inl (by decide))))
        have hj0_6 := hj0_6.kept (hq9 _ (tk_ne ht_ld90 ht_a0 (Or.inl (by decide))))
        have hj0_7 := hj0_7.kept (hq9 _ (tk_ne ht_ld100 ht_a0 (Or.inl (by decide))))
        have hj0_8 := hj0_8.kept (hq9 _ (tk_ne ht_ld110 ht_a0 (Or.inl (by decide))))
        have hj0_9 := hj0_9.kept (hq9 _ (tk_ne ht_ld120 ht_a0 (Or.inl (by decide))))
        have hf1 := hj9 0 _ (by decide) (by decide) hf1
        have hj16 := hj16.kept (hq9 _ (tk_ne ht_ld76 ht_a0 (Or.inl (by decide))))
        have hf17 := hj9 4 _ (by decide) (by decide) hf17
        have hj22 := hj22.kept (hq9 _ (tk_ne ht_ld86 ht_a0 (Or.inl (by decide))))
        have hj26 := hj26.kept (hq9 _ (tk_ne ht_ld96 ht_a0 (Or.inl (by decide))))
        have hf27 := hj9 7 _ (by decide) (by decide) hf27
        have hj32 := hj32.kept (hq9 _ (tk_ne ht_ld106 ht_a0 (Or.inl (by decide))))
        have hj36 := hj36.kept (hq9 _ (tk_ne ht_ld116 ht_a0 (Or.inl (by decide))))
        have hj40 := hj40.kept (hq9 _ (tk_ne ht_ld126 ht_a0 (Or.inl (by decide))))
        have hf41 := hj9 11 _ (by decide) (by decide) hf41
        have hf50 := hf50.kept (hq9 _ (tk_ne ht_a1 ht_a0 (Or.inr (Or.inr (by decide)))))
        have hf52 := hj9 13 _ (by decide) (by decide) hf52
        have hf392 := hf392.kept (hq9 _ (tk_ne ht_a1 ht_a0 (Or.inr (Or.inr (by decide)))))
        have hf394 := hj9 15 _ (by decide) (by decide) hf394
        refine lv_aload_n hx hb dX2_copyFrom_236 rfl (lv_at hl 1 rfl) ?_
        refine tk_get (ci := 2) (C := RX2) (T := TX2) (N := 20) (sp := (9, 40, 10, 0)) hx hb htl inX2 hown hK hG ht_a0 (by decide) tk_no rfl 19 (by decide) (htl _ mw_77) (fun _ h9 => h9) rfl dX2_copyFrom_237 (fun v9 hf408 hV9 => ?_)
        obtain ⟨rfl, ht_ld46⟩ := hV9
        have ht_ld46 : t (ld 46) = (10, 0, 6) := ht_ld46
        refine fx_top (v := .ref (ld 46)) rfl ?_
        refine lv_aload_n hx hb dX2_copyFrom_240 rfl (lv_at hl 2 rfl) ?_
        refine tk_get (ci := 2) (C := RX2) (T := TX2) (N := 20) (sp := (9, 40, 10, 0)) hx hb htl inX2 hown hK hG ht_a1 (by decide) tk_no rfl 19 (by decide) (htl _ mw_77) (fun _ h9 => h9) rfl dX2_copyFrom_241 (fun v9 hf409 hV9 => ?_)
        obtain ⟨rfl, ht_ld40⟩ := hV9
        have ht_ld40 : t (ld 40) = (10, 0, 0) := ht_ld40
        refine fx_top (v := .ref (ld 40)) rfl ?_
        obtain ⟨v9, hf410, hV9⟩ := tk_peek (ci := 9) (C := RX9) (T := TX9) (N := 11) (sp := (0, (-1), 7, 0)) hG ht_ld40 (by decide) tk_no rfl 5 (by decide) rfl
        obtain ⟨v411, rfl, (ha_v411 : (-1) ≤ v411.toInt), (hb_v411 : v411.toInt ≤ 7)⟩ := hV9
        refine tk_Vv (As := [.ref (ld 40)]) (rest := []) (ci := 9) ⟨hx, hb, hml, hown, hts⟩ hK hG hZ hS (k_X9_copyFrom l D cy ld t 6 0 (ld 46) (ld 40) v411 ht_ld46 ht_ld40 (by omega) (by omega) (by omega)) hf410 ⟨callB_of 1 hts (wl_in mw_821) rfl rfl rfl (htl _ mw_76) (htl _ mw_1713) hd_yX9_copyFrom ⟨(Nat.le_of_ble_eq_true rfl), (Nat.le_of_ble_eq_true rfl)⟩, htl _ mw_819, htl _ mw_820⟩ ht_ld46 (by decide) tk_no rfl (tk_w.pick [1, 11] rfl) rfl hl.1 rfl (Nat.le_of_ble_eq_true rfl) dX2_copyFrom_244 ⟨(Nat.le_of_ble_eq_true rfl), (Nat.le_of_ble_eq_true rfl)⟩ (fun H locs hpo hG hS hq9 => ?_)
        have hj0_0 := hj0_0.call hq9 (tk_w.no ht_a1 (by decide))
        have hj0_1 := hj0_1.call hq9 (tk_w.no ht_a1 (by decide))
        have hj0_2 := hj0_2.call hq9 (tk_w.no ht_a1 (by decide))
        have hj0_3 := hj0_3.call hq9 (tk_w.no ht_a1 (by decide))
        have hj0_4 := hj0_4.call hq9 (tk_w.no ht_ld70 (by decide))
        have hj0_5 := hj0_5.call hq9 (tk_w.no ht_ld80 (by decide))
        have hj0_6 := hj0_6.call hq9 (tk_w.no ht_ld90 (by decide))
        have hj0_7 := hj0_7.call hq9 (tk_w.no ht_ld100 (by decide))
        have hj0_8 := hj0_8.call hq9 (tk_w.no ht_ld110 (by decide))
        have hj0_9 := hj0_9.call hq9 (tk_w.no ht_ld120 (by decide))
        have hf1 := hf1.call hq9 (tk_w.no ht_a0 (by decide))
        have hj16 := hj16.call hq9 (tk_w.no ht_ld76 (by decide))
        have hf17 := hf17.call hq9 (tk_w.no ht_a0 (by decide))
        have hj22 := hj22.call hq9 (tk_w.no ht_ld86 (by decide))
        have hj26 := hj26.call hq9 (tk_w.no ht_ld96 (by decide))
        have hf27 := hf27.call hq9 (tk_w.no ht_a0 (by decide))
        have hj32 := hj32.call hq9 (tk_w.no ht_ld106 (by decide))
        have hj36 := hj36.call hq9 (tk_w.no ht_ld116 (by decide))
        have hj40 := hj40.call hq9 (tk_w.no ht_ld126 (by decide))
        have hf41 := hf41.call hq9 (tk_w.no ht_a0 (by decide))
        have hf50 := hf50.call hq9 (tk_w.no ht_a1 (by decide))
        have hf52 := hf52.call hq9 (tk_w.no ht_a0 (by decide))
        have hf392 := hf392.call hq9 (tk_w.no ht_a1 (by decide))
        have hf394 := hf394.call hq9 (tk_w.no ht_a0 (by decide))
        have hf410 := hf410.call hq9 (tk_w.no ht_ld40 (by decide))
        have hf413 := hpo
        exact tk_vret hx hb hr hlocks (show jC D ld a1 0 n0 n1 n2 n3 fh fs fk q1 q2 q3 H ∧ jC D ld a0 6 n0 n1 n2 n3 fh fs fk q1 q2 q3 H from ⟨⟨hj0_0, hj0_1, hj0_2, hj0_3, hj0_4, hj0_5, hj0_6, hj0_7, hj0_8, hj0_9⟩, ⟨hf1, hf17, hf27, hf41, hj16, hj22, hj26, hj32, hj36, hj40⟩⟩) hG hS dX2_copyFrom_247
      · have hc377 : ¬ (6 ≤ v54.toInt) := fun h9 => c9 ((fi_le (show (6 : Int32).toInt = 6 by decide) rfl).mpr h9)
        refine lv_aload_n hx hb dX2_copyFrom_186 rfl (lv_at hl 1 rfl) ?_
        refine tk_get (ci := 2) (C := RX2) (T := TX2) (N := 20) (sp := (1, 28, 6, 0)) hx hb htl inX2 hown hK hG ht_a0 (by decide) tk_no rfl 14 (by decide) (htl _ mw_70) (fun _ h9 => h9) rfl dX2_copyFrom_187 (fun v9 hf414 hV9 => ?_)
        obtain ⟨b415, rfl, ht_b415⟩ := hV9
        have ht_b415 : t b415 = (28, 6, 6) := ht_b415
        refine lv_iload_n hx hb dX2_copyFrom_190 rfl (lv_at hl 0 rfl) ?_
        refine lv_aload_n hx hb dX2_copyFrom_191 rfl (lv_at hl 2 rfl) ?_
        refine tk_get (ci := 2) (C := RX2) (T := TX2) (N := 20) (sp := (1, 28, 6, 0)) hx hb htl inX2 hown hK hG ht_a1 (by decide) tk_no rfl 14 (by decide) (htl _ mw_70) (fun _ h9 => h9) rfl dX2_copyFrom_192 (fun v9 hf416 hV9 => ?_)
        obtain ⟨b417, rfl, ht_b417⟩ := hV9
        have ht_b417 : t b417 = (28, 6, 0) := ht_b417
        refine lv_iload_n hx hb dX2_copyFrom_195 rfl (lv_at hl 0 rfl) ?_
        refine tk_aald hx hb hK hG 5 rfl rfl ht_b417 (by decide) (fun _ h => h) tk_no rfl (by omega) (by omega) dX2_copyFrom_196 (fun o418 ht_o418 => ?_)
        have hj424 : ∀ (H : Heap) (locs : List Loc), tk_G D cy ld t [] H → va_S (tk_w t [(3, 6, 6), (20, 6, 6), (21, 6, 6), (32, 6, 6), (33, 6, 6), (34, 6, 6), (35, 6, 6), (36, 6, 6), (37, 6, 6), (24, 6, 6), (28, 6, 6), (10, 6, 6)]) s.heap H locs → tk_f D H a1 2 0 (.int n0) → tk_f D H a1 2 4 (.int n1) → tk_f D H a1 2 7 (.int n2) → tk_f D H a1 2 11 (.int n3) → tk_c H (ld 70) 8 fh → tk_c H (ld 80) 10 fs → tk_c H (ld 90) 10 fk → tk_c H (ld 100) 10 q1 → tk_c H (ld 110) 10 q2 → tk_c H (ld 120) 10 q3 → tk_f D H a0 2 0 (.int n0) → tk_c H (ld 76) 8 fh → tk_f D H a0 2 4 (.int n1) → tk_c H (ld 86) 10 fs → tk_c H (ld 96) 10 fk → tk_f D H a0 2 7 (.int n2) → tk_c H (ld 106) 10 q1 → tk_c H (ld 116) 10 q2 → tk_c H (ld 126) 10 q3 → tk_f D H a0 2 11 (.int n3) → tk_f D H a1 2 13 (.int v51) → tk_f D H a0 2 13 (.int v51) → ∀ ls : Array Slot, lv_has ls 3 [(2, .int v54), (0, .ref a0), (1, .ref a1)] → W p l e ({ frames := 5, cells := 0, slots := 0, locals := 280 }) s m args below meth c H locs 0 0 (MQ below (tv D cy ld t [] (fun H => jC D ld a1 0 n0 n1 n2 n3 fh fs fk q1 q2 q3 H ∧ jC D ld a0 6 n0 n1 n2 n3 fh fs fk q1 q2 q3 H) (tk_w t [(3, 6, 6), (20, 6, 6), (21, 6, 6), (32, 6, 6), (33, 6, 6), (34, 6, 6), (35, 6, 6), (36, 6, 6), (37, 6, 6), (24, 6, 6), (28, 6, 6), (10, 6, 6)])) args s 0 0 (tk_w t [(3, 6, 6), (20, 6, 6), (21, 6, 6), (32, 6, 6), (33, 6, 6), (34, 6, 6), (35, 6, 6), (36, 6, 6), (37, 6, 6), (24, 6, 6), (28, 6, 6), (10, 6, 6)])) (F0 m 198 ls []) := by
          intro H locs hG hS hj0_0 hj0_1 hj0_2 hj0_3 hj0_4 hj0_5 hj0_6 hj0_7 hj0_8 hj0_9 hf1 hj16 hf17 hj22 hj26 hf27 hj32 hj36 hj40 hf41 hf50 hf52 ls hl
          obtain ⟨v425, h_v425, e_v425⟩ := tk_inc v54 1 (by decide) (by omega) (by omega)
          refine lv_iinc (v := v425) (lv' := [(2, .int v425), (0, .ref a0), (1, .ref a1)]) hx hb dX2_copyFrom_198 hl (k := 0) rfl e_v425 (by decide) rfl (fun ls hl => ?_)
          refine lv_goto (tgt := 180) hx hb dX2_copyFrom_201 (by decide) ?_
          exact ih_l376 v425 _ _ (by omega) (by omega) (by omega) hG hS hj0_0 hj0_1 hj0_2 hj0_3 hj0_4 hj0_5 hj0_6 hj0_7 hj0_8 hj0_9 hf1 hj16 hf17 hj22 hj26 hf27 hj32 hj36 hj40 hf41 hf50 hf52 _ (lv_sub hl [0, 1, 2] rfl)
        rcases o418 with _ | b419
        · refine fx_top (v := .null) rfl ?_
          refine tk_aastN hx hb hK hG hS 5 rfl ht_b415 (by decide) (fun _ => Iff.rfl) tk_no rfl (by omega) (by omega) (fun _ h => by cases h) (tk_w.of ht_b415 (by decide) (List.mem_of_getElem? (i := 10) rfl) (Nat.le_refl _) (Nat.le_refl _)) dX2_copyFrom_197 (fun H locs hG hS hq9 => ?_)
          have hj0_0 := hj0_0.kept (hq9 _ (tk_ne ht_a1 ht_b415 (Or.inl (by decide))))
          have hj0_1 := hj0_1.kept (hq9 _ (tk_ne ht_a1 ht_b415 (Or.inl (by decide))))
          have hj0_2 := hj0_2.kept (hq9 _ (tk_ne ht_a1 ht_b415 (Or.inl (by decide))))
          have hj0_3 := hj0_3.kept (hq9 _ (tk_ne ht_a1 ht_b415 (Or.inl (by decide))))
          have hj0_4 := hj0_4.kept (hq9 _ (tk_ne ht_ld70 ht_b415 (Or.inl (by decide))))
          have hj0_5 := hj0_5.kept (hq9 _ (tk_ne ht_ld80 ht_b415 (Or.inl (by decide))))
          have hj0_6 := hj0_6.kept (hq9 _ (tk_ne ht_ld90 ht_b415 (Or.inl (by decide))))
          have hj0_7 := hj0_7.kept (hq9 _ (tk_ne ht_ld100 ht_b415 (Or.inl (by decide))))
          have hj0_8 := hj0_8.kept (hq9 _ (tk_ne ht_ld110 ht_b415 (Or.inl (by decide))))
          have hj0_9 := hj0_9.kept (hq9 _ (tk_ne ht_ld120 ht_b415 (Or.inl (by decide))))
          have hf1 := hf1.kept (hq9 _ (tk_ne ht_a0 ht_b415 (Or.inl (by decide))))
          have hj16 := hj16.kept (hq9 _ (tk_ne ht_ld76 ht_b415 (Or.inl (by decide))))
          have hf17 := hf17.kept (hq9 _ (tk_ne ht_a0 ht_b415 (Or.inl (by decide))))
          have hj22 := hj22.kept (hq9 _ (tk_ne ht_ld86 ht_b415 (Or.inl (by decide))))
          have hj26 := hj26.kept (hq9 _ (tk_ne ht_ld96 ht_b415 (Or.inl (by decide))))
          have hf27 := hf27.kept (hq9 _ (tk_ne ht_a0 ht_b415 (Or.inl (by decide))))
          have hj32 := hj32.kept (hq9 _ (tk_ne ht_ld106 ht_b415 (Or.inl (by decide))))
          have hj36 := hj36.kept (hq9 _ (tk_ne ht_ld116 ht_b415 (Or.inl (by decide))))
          have hj40 := hj40.kept (hq9 _ (tk_ne ht_ld126 ht_b415 (Or.inl (by decide))))
          have hf41 := hf41.kept (hq9 _ (tk_ne ht_a0 ht_b415 (Or.inl (by decide))))
          have hf50 := hf50.kept (hq9 _ (tk_ne ht_a1 ht_b415 (Or.inl (by decide))))
          have hf52 := hf52.kept (hq9 _ (tk_ne ht_a0 ht_b415 (Or.inl (by decide))))
          exact hj424 _ _ hG hS hj0_0 hj0_1 hj0_2 hj0_3 hj0_4 hj0_5 hj0_6 hj0_7 hj0_8 hj0_9 hf1 hj16 hf17 hj22 hj26 hf27 hj32 hj36 hj40 hf41 hf50 hf52 _ (lv_sub hl [0, 1, 2] rfl)
        · obtain ⟨n_b419, r_b419, ht_b419⟩ := ht_o418 b419 rfl
          refine fx_top (v := .ref b419) rfl ?_
          refine tk_aast (ci := 7) hx hb hK hG hS 5 rfl ht_b415 (by decide) (fun _ => Iff.rfl) tk_no ht_b419 (by decide) tk_no rfl rfl (by omega) (by omega) (fun _ h => by cases h; exact ⟨_, _, ht_b419⟩) (tk_w.of ht_b415 (by decide) (List.mem_of_getElem? (i := 10) rfl) (Nat.le_refl _) (Nat.le_refl _)) dX2_copyFrom_197 (fun H locs hG hS hq9 => ?_)
          have hj0_0 := hj0_0.kept (hq9 _ (tk_ne ht_a1 ht_b415 (Or.inl (by decide))))
          have hj0_1 := hj0_1.kept (hq9 _ (tk_ne ht_a1 ht_b415 (Or.inl (by decide))))
          have hj0_2 := hj0_2.kept (hq9 _ (tk_ne ht_a1 ht_b415 (Or.inl (by decide))))
          have hj0_3 := hj0_3.kept (hq9 _ (tk_ne ht_a1 ht_b415 (Or.inl (by decide))))
          have hj0_4 := hj0_4.kept (hq9 _ (tk_ne ht_ld70 ht_b415 (Or.inl (by decide))))
          have hj0_5 := hj0_5.kept (hq9 _ (tk_ne ht_ld80 ht_b415 (Or.inl (by decide))))
          have hj0_6 := hj0_6.kept (hq9 _ (tk_ne ht_ld90 ht_b415 (Or.inl (by decide))))
          have hj0_7 := hj0_7.kept (hq9 _ (tk_ne ht_ld100 ht_b415 (Or.inl (by decide))))
          have hj0_8 := hj0_8.kept (hq9 _ (tk_ne ht_ld110 ht_b415 (Or.inl (by decide))))
          have hj0_9 := hj0_9.kept (hq9 _ (tk_ne ht_ld120 ht_b415 (Or.inl (by decide))))
          have hf1 := hf1.kept (hq9 _ (tk_ne ht_a0 ht_b415 (Or.inl (by decide))))
          have hj16 := hj16.kept (hq9 _ (tk_ne ht_ld76 ht_b415 (Or.inl (by decide))))
          have hf17 := hf17.kept (hq9 _ (tk_ne ht_a0 ht_b415 (Or.inl (by decide))))
          have hj22 := hj22.kept (hq9 _ (tk_ne ht_ld86 ht_b415 (Or.inl (by decide))))
          have hj26 := hj26.kept (hq9 _ (tk_ne ht_ld96 ht_b415 (Or.inl (by decide))))
          have hf27 := hf27.kept (hq9 _ (tk_ne ht_a0 ht_b415 (Or.inl (by decide))))
          have hj32 := hj32.kept (hq9 _ (tk_ne ht_ld106 ht_b415 (Or.inl (by decide))))
          have hj36 := hj36.kept (hq9 _ (tk_ne ht_ld116 ht_b415 (Or.inl (by decide))))
          have hj40 := hj40.kept (hq9 _ (tk_ne ht_ld126 ht_b415 (Or.inl (by decide))))
          have hf41 := hf41.kept (hq9 _ (tk_ne ht_a0 ht_b415 (Or.inl (by decide))))
          have hf50 := hf50.kept (hq9 _ (tk_ne ht_a1 ht_b415 (Or.inl (by decide))))
          have hf52 := hf52.kept (hq9 _ (tk_ne ht_a0 ht_b415 (Or.inl (by decide))))
          exact hj424 _ _ hG hS hj0_0 hj0_1 hj0_2 hj0_3 hj0_4 hj0_5 hj0_6 hj0_7 hj0_8 hj0_9 hf1 hj16 hf17 hj22 hj26 hf27 hj32 hj36 hj40 hf41 hf50 hf52 _ (lv_sub hl [0, 1, 2] rfl)
  have hk_0 : (0 : Int32).toInt = 0 := by decide
  exact hl376 7 0 _ _ (by omega) (by omega) (by omega) hG hS hj0_0 hj0_1 hj0_2 hj0_3 hj0_4 hj0_5 hj0_6 hj0_7 hj0_8 hj0_9 hf1 hj16 hf17 hj22 hj26 hf27 hj32 hj36 hj40 hf41 hf50 hf52 _ (lv_sub hl [0, 1, 2] rfl)
