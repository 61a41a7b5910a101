set_option maxHeartbeats 4000000 in
set_option maxRecDepth 100000 in
theorem k_X2_isSinger_x_x (l : Launch) (D : va_G) (cy : Nat → ClassId) (ld : Nat → Nat) (t : tk_T) (a0 : Nat) (p1 : Int32) (gs : Int32) (ht_a0 : t a0 = (3, 0, 0)) (hp_0 : 0 ≤ gs.toInt) (hp_1 : gs.toInt ≤ 8) : Met l yX2_isSinger (wl yX2_isSinger cX2_isSinger 2 (some .boolean)) ({ frames := 3, cells := 0, slots := 0, locals := 140 }) (tp D cy ld t [] [.ref a0, .int p1] (fun H => tk_f D H a0 2 0 (.int gs))) (ti D cy ld t [] (fun r H => (1 ≤ r.toInt → 0 ≤ p1.toInt ∧ 0 ≤ gs.toInt + (-1) * p1.toInt + (-1)) ∧ (r.toInt ≤ 0 → 0 ≤ p1.toInt → 0 ≤ (-1) * gs.toInt + p1.toInt) ∧ 0 ≤ r.toInt ∧ r.toInt ≤ 1 ∧ 0 ≤ r.toInt ∧ r.toInt ≤ 1) (tk_w t [])) 0 0 (tk_w t []) := by
  refine tk_met (y := yX2_isSinger) (cc := cX2_isSinger) (maxL := 2) (ret := (some .boolean)) (av := [.ref a0, .int p1]) _ _ (by decide) (Nat.le_of_ble_eq_true rfl) ?_
  intro p e s m args below meth c hx hb hr hml hts htl hown hlocks hK H locs hH hG hS hB hZ ls hl
  have hown : s.vm.findClass RX2 = some m.cls := hown
  have hl : lv_has ls 2 [(0, .ref a0), (1, .int p1)] := hl
  have hg_0 := hB
  have hr_p1 := tk_rng p1
  refine lv_iload_n hx hb dX2_isSinger_0 rfl (lv_at hl 1 rfl) ?_
  refine lv_if_lt (tgt := 16) hx hb dX2_isSinger_1 (by decide) (fun c9 => ?_) (fun c9 => ?_)
  · have hc1 : p1.toInt < 0 := (fi_lt rfl (show (0 : Int32).toInt = 0 by decide)).mp c9
    refine lv_iconst (v := 0) hx hb dX2_isSinger_16 (by decide) ?_
    have hk_0 : (0 : Int32).toInt = 0 := by decide
    exact tk_iret (v := 0) hx hb hr rfl hlocks (show (1 ≤ (0 : Int32).toInt → 0 ≤ p1.toInt ∧ 0 ≤ gs.toInt + (-1) * p1.toInt + (-1)) ∧ ((0 : Int32).toInt ≤ 0 → 0 ≤ p1.toInt → 0 ≤ (-1) * gs.toInt + p1.toInt) ∧ 0 ≤ (0 : Int32).toInt ∧ (0 : Int32).toInt ≤ 1 ∧ 0 ≤ (0 : Int32).toInt ∧ (0 : Int32).toInt ≤ 1 from ⟨(fun _ => ⟨by omega, by omega⟩), (fun _ _ => by omega), (by omega), (by omega), (by omega), (by omega)⟩) hG hS dX2_isSinger_17
  · have hc1 : ¬ (p1.toInt < 0) := fun h9 => c9 ((fi_lt rfl (show (0 : Int32).toInt = 0 by decide)).mpr h9)
    refine lv_iload_n hx hb dX2_isSinger_4 rfl (lv_at hl 1 rfl) ?_
    refine lv_aload_n hx hb dX2_isSinger_5 rfl (lv_at hl 0 rfl) ?_
    refine tk_getk (ci := 2) (C := RX2) (T := TX2) (N := 20) (sp := (0, 0, 8, 0)) hx hb htl inX2 hown hK hG ht_a0 (by decide) tk_no rfl 0 (by decide) (htl _ mw_257) (fun _ h9 => h9) rfl hg_0 dX2_isSinger_6 ?_
    refine lv_icmp_ge (tgt := 16) hx hb dX2_isSinger_9 (by decide) (fun c9 => ?_) (fun c9 => ?_)
    · have hc2 : gs.toInt ≤ p1.toInt := (fi_le rfl rfl).mp c9
      refine lv_iconst (v := 0) hx hb dX2_isSinger_16 (by decide) ?_
      have hk_0 : (0 : Int32).toInt = 0 := by decide
      exact tk_iret (v := 0) hx hb hr rfl hlocks (show (1 ≤ (0 : Int32).toInt → 0 ≤ p1.toInt ∧ 0 ≤ gs.toInt + (-1) * p1.toInt + (-1)) ∧ ((0 : Int32).toInt ≤ 0 → 0 ≤ p1.toInt → 0 ≤ (-1) * gs.toInt + p1.toInt) ∧ 0 ≤ (0 : Int32).toInt ∧ (0 : Int32).toInt ≤ 1 ∧ 0 ≤ (0 : Int32).toInt ∧ (0 : Int32).toInt ≤ 1 from ⟨(fun _ => ⟨by omega, by omega⟩), (fun _ _ => by omega), (by omega), (by omega), (by omega), (by omega)⟩) hG hS dX2_isSinger_17
    · have hc2 : ¬ (gs.toInt ≤ p1.toInt) := fun h9 => c9 ((fi_le rfl rfl).mpr h9)
      refine lv_iconst (v := 1) hx hb dX2_isSinger_12 (by decide) ?_
      refine lv_goto (tgt := 17) hx hb dX2_isSinger_13 (by decide) ?_
      have hk_1 : (1 : Int32).toInt = 1 := by decide
      exact tk_iret (v := 1) hx hb hr rfl hlocks (show (1 ≤ (1 : Int32).toInt → 0 ≤ p1.toInt ∧ 0 ≤ gs.toInt + (-1) * p1.toInt + (-1)) ∧ ((1 : Int32).toInt ≤ 0 → 0 ≤ p1.toInt → 0 ≤ (-1) * gs.toInt + p1.toInt) ∧ 0 ≤ (1 : Int32).toInt ∧ (1 : Int32).toInt ≤ 1 ∧ 0 ≤ (1 : Int32).toInt ∧ (1 : Int32).toInt ≤ 1 from ⟨(fun _ => ⟨by omega, by omega⟩), (fun _ _ => by omega), (by omega), (by omega), (by omega), (by omega)⟩) hG hS dX2_isSinger_17
set_option maxHeartbeats 4000000 in
set_option maxRecDepth 100000 in
theorem k_X2_setHearing_x (l : Launch) (D : va_G) (cy : Nat → ClassId) (ld : Nat → Nat) (t : tk_T) (a0 : Nat) (p1 : Int32) (p2 : Int32) (p3 : Int32) (n0 n1 n2 n3 : Int32) (fh fs fk q1 q2 q3 : Nat → Int32) (ht_a0 : t a0 = (3, 0, 0)) (ht_ld70 : t (ld 70) = (32, 8, 0)) (ht_ld80 : t (ld 80) = (33, 10, 0)) (ht_ld90 : t (ld 90) = (34, 10, 0)) (ht_ld100 : t (ld 100) = (35, 10, 0)) (ht_ld110 : t (ld 110) = (36, 10, 0)) (ht_ld120 : t (ld 120) = (37, 10, 0)) (hp_0 : 0 ≤ p1.toInt) (hp_1 : p1.toInt ≤ 7) (hp_2 : 0 ≤ p2.toInt) (hp_3 : p2.toInt ≤ 7) (hp_4 : 0 ≤ n0.toInt) (hp_5 : n0.toInt ≤ 8) (hp_6 : 0 ≤ n1.toInt) (hp_7 : n1.toInt ≤ 10) (hp_8 : 0 ≤ n2.toInt) (hp_9 : n2.toInt ≤ 10) (hp_10 : 0 ≤ n3.toInt) (hp_11 : n3.toInt ≤ 8) : Met l yX2_setHearing (wl yX2_setHearing cX2_setHearing 5 (some .int)) ({ frames := 3, cells := 0, slots := 0, locals := 140 }) (tp D cy ld t [] [.ref a0, .int p1, .int p2, .int p3] (fun H => jC D ld a0 0 n0 n1 n2 n3 fh fs fk q1 q2 q3 H)) (ti D cy ld t [] (fun r H => 0 ≤ r.toInt ∧ r.toInt ≤ 1 ∧ r = (fh p1.toInt.toNat >>> (p2 &&& 31)) &&& 1 ∧ jC D ld a0 0 n0 n1 n2 n3 (upd fh p1.toInt.toNat (jh (fh p1.toInt.toNat) p2 p3)) fs fk q1 q2 q3 H) (tk_w t [(32, 0, 0)])) 0 0 (tk_w t [(32, 0, 0)]) := by
  refine tk_met (y := yX2_setHearing) (cc := cX2_setHearing) (maxL := 5) (ret := (some .int)) (av := [.ref a0, .int p1, .int p2, .int p3]) _ _ (by decide) (Nat.le_of_ble_eq_true rfl) ?_
  intro p e s m args below meth c hx hb hr hml hts htl hown hlocks hK H locs hH hG hS hB hZ ls hl
  have hown : s.vm.findClass RX2 = some m.cls := hown
  have hl : lv_has ls 5 [(0, .ref a0), (1, .int p1), (2, .int p2), (3, .int p3)] := hl
  have ⟨hj0_0, hj0_1, hj0_2, hj0_3, hj0_4, hj0_5, hj0_6, hj0_7, hj0_8, hj0_9⟩ := hB
  have hr_p1 := tk_rng p1
  have hr_p2 := tk_rng p2
  have hr_p3 := tk_rng p3
  refine lv_aload_n hx hb dX2_setHearing_0 rfl (lv_at hl 0 rfl) ?_
  refine tk_get (ci := 2) (C := RX2) (T := TX2) (N := 20) (sp := (11, 70, 32, 8)) hx hb htl inX2 hown hK hG ht_a0 (by decide) tk_no rfl 3 (by decide) (htl _ mw_62) (fun _ h9 => h9) rfl dX2_setHearing_1 (fun v9 hf1 hV9 => ?_)
  obtain ⟨rfl, ht_ld70⟩ := hV9
  have ht_ld70 : t (ld 70) = (32, 8, 0) := ht_ld70
  refine fx_top (v := .ref (ld 70)) rfl ?_
  refine lv_iload_n hx hb dX2_setHearing_4 rfl (lv_at hl 1 rfl) ?_
  refine tk_iald hx hb hK hG ht_ld70 (by decide) (fun _ h => h) tk_no rfl (by omega) (by omega) dX2_setHearing_5 (fun v2 _ hz9 => ?_)
  have hr_v2 := tk_rng v2
  have ev_v2 : v2 = fh p1.toNatClampNeg := hj0_4.at hz9 (by have h9 : p1.toNatClampNeg = p1.toInt.toNat := rfl; omega)
  refine lv_iload_n hx hb dX2_setHearing_6 rfl (lv_at hl 2 rfl) ?_
  obtain ⟨v3, hm_v3⟩ : ∃ z : Int32, v2 >>> (p2 &&& 31) = z := ⟨_, rfl⟩
  refine lv_ishr hx hb dX2_setHearing_7 ?_
  refine fx_ti hm_v3 ?_
  have hq_v3 := tk_rng v3
  refine lv_iconst (v := 1) hx hb dX2_setHearing_8 (by decide) ?_
  obtain ⟨v4, hm_v4⟩ : ∃ z : Int32, v3 &&& (1 : Int32) = z := ⟨_, rfl⟩
  refine lv_iand hx hb dX2_setHearing_9 ?_
  refine fx_ti hm_v4 ?_
  have h_v4 : 0 ≤ v4.toInt ∧ v4.toInt ≤ 1 := hm_v4 ▸ tk_and v3 1 (by decide) (by decide)
  refine lv_istore (lv' := [(4, .int v4), (0, .ref a0), (1, .int p1), (2, .int p2), (3, .int p3)]) hx hb dX2_setHearing_10 hl (by decide) rfl (fun ls hl => ?_)
  refine lv_aload_n hx hb dX2_setHearing_12 rfl (lv_at hl 1 rfl) ?_
  refine tk_get (ci := 2) (C := RX2) (T := TX2) (N := 20) (sp := (11, 70, 32, 8)) hx hb htl inX2 hown hK hG ht_a0 (by decide) tk_no rfl 3 (by decide) (htl _ mw_62) (fun _ h9 => h9) rfl dX2_setHearing_13 (fun v9 hf5 hV9 => ?_)
  obtain ⟨rfl, ht_ld70⟩ := hV9
  have ht_ld70 : t (ld 70) = (32, 8, 0) := ht_ld70
  refine fx_top (v := .ref (ld 70)) rfl ?_
  refine lv_iload_n hx hb dX2_setHearing_16 rfl (lv_at hl 2 rfl) ?_
  refine lv_iload_n hx hb dX2_setHearing_17 rfl (lv_at hl 4 rfl) ?_
  refine lv_iconst (v := 1) hx hb dX2_setHearing_18 (by decide) ?_
  refine lv_icmp_ne (tgt := 35) hx hb dX2_setHearing_19 (by decide) (fun c9 => ?_) (fun c9 => ?_)
  · have hc6 : ¬ (p3.toInt = 1) := fun h9 => c9 ((fi_eq rfl (show (1 : Int32).toInt = 1 by decide)).mpr h9)
    refine lv_aload_n hx hb dX2_setHearing_35 rfl (lv_at hl 1 rfl) ?_
    refine tk_get (ci := 2) (C := RX2) (T := TX2) (N := 20) (sp := (11, 70, 32, 8)) hx hb htl inX2 hown hK hG ht_a0 (by decide) tk_no rfl 3 (by decide) (htl _ mw_62) (fun _ h9 => h9) rfl dX2_setHearing_36 (fun v9 hf7 hV9 => ?_)
    obtain ⟨rfl, ht_ld70⟩ := hV9
    have ht_ld70 : t (ld 70) = (32, 8, 0) := ht_ld70
    refine fx_top (v := .ref (ld 70)) rfl ?_
    refine lv_iload_n hx hb dX2_setHearing_39 rfl (lv_at hl 2 rfl) ?_
    refine tk_iald hx hb hK hG ht_ld70 (by decide) (fun _ h => h) tk_no rfl (by omega) (by omega) dX2_setHearing_40 (fun v8 _ hz9 => ?_)
    have hr_v8 := tk_rng v8
    have ev_v8 : v8 = fh p1.toNatClampNeg := hj0_4.at hz9 (by have h9 : p1.toNatClampNeg = p1.toInt.toNat := rfl; omega)
    refine lv_iconst (v := 1) hx hb dX2_setHearing_41 (by decide) ?_
    refine lv_iload_n hx hb dX2_setHearing_42 rfl (lv_at hl 3 rfl) ?_
    obtain ⟨v9, hm_v9⟩ : ∃ z : Int32, (1 : Int32) <<< (p2 &&& 31) = z := ⟨_, rfl⟩
    refine lv_ishl hx hb dX2_setHearing_43 ?_
    refine fx_ti hm_v9 ?_
    have hq_v9 := tk_rng v9
    refine lv_iconst (v := (-1)) hx hb dX2_setHearing_44 (by decide) ?_
    obtain ⟨v10, hm_v10⟩ : ∃ z : Int32, v9 ^^^ ((-1) : Int32) = z := ⟨_, rfl⟩
    refine lv_ixor hx hb dX2_setHearing_45 ?_
    refine fx_ti hm_v10 ?_
    have hq_v10 := tk_rng v10
    obtain ⟨v11, hm_v11⟩ : ∃ z : Int32, v8 &&& v10 = z := ⟨_, rfl⟩
    refine lv_iand hx hb dX2_setHearing_46 ?_
    refine fx_ti hm_v11 ?_
    have hq_v11 := tk_rng v11
    refine tk_iastC hx hb hK hG hS ht_ld70 (by decide) (fun _ => Iff.rfl) tk_no rfl (by omega) (by omega) trivial (tk_w.of ht_ld70 (by decide) (List.mem_of_getElem? (i := 0) rfl) (Nat.le_refl _) (Nat.le_refl _)) dX2_setHearing_47 hj0_4 (fun H locs hG hS hq9 hj13 => ?_)
    have hj13 : tk_c H (ld 70) 8 (upd fh p1.toNatClampNeg v11) := hj13
    have hj0_0 := hj0_0.kept (hq9 _ (tk_ne ht_a0 ht_ld70 (Or.inl (by decide))))
    have hj0_1 := hj0_1.kept (hq9 _ (tk_ne ht_a0 ht_ld70 (Or.inl (by decide))))
    have hj0_2 := hj0_2.kept (hq9 _ (tk_ne ht_a0 ht_ld70 (Or.inl (by decide))))
    have hj0_3 := hj0_3.kept (hq9 _ (tk_ne ht_a0 ht_ld70 (Or.inl (by decide))))
    have hj0_5 := hj0_5.kept (hq9 _ (tk_ne ht_ld80 ht_ld70 (Or.inl (by decide))))
    have hj0_6 := hj0_6.kept (hq9 _ (tk_ne ht_ld90 ht_ld70 (Or.inl (by decide))))
    have hj0_7 := hj0_7.kept (hq9 _ (tk_ne ht_ld100 ht_ld70 (Or.inl (by decide))))
    have hj0_8 := hj0_8.kept (hq9 _ (tk_ne ht_ld110 ht_ld70 (Or.inl (by decide))))
    have hj0_9 := hj0_9.kept (hq9 _ (tk_ne ht_ld120 ht_ld70 (Or.inl (by decide))))
    refine lv_iload hx hb dX2_setHearing_48 (lv_at hl 0 rfl) ?_
    exact tk_iret (v := v4) hx hb hr rfl hlocks (show 0 ≤ v4.toInt ∧ v4.toInt ≤ 1 ∧ v4 = (fh p1.toInt.toNat >>> (p2 &&& 31)) &&& 1 ∧ jC D ld a0 0 n0 n1 n2 n3 (upd fh p1.toInt.toNat (jh (fh p1.toInt.toNat) p2 p3)) fs fk q1 q2 q3 H from ⟨(by omega), (by omega), (by rw [← hm_v4, ← hm_v3, ev_v2]; rfl), ⟨hj0_0, hj0_1, hj0_2, hj0_3, (hj13.cg (by show upd fh p1.toInt.toNat v11 = upd fh p1.toInt.toNat _; congr 1; unfold jh; rw [if_neg (by omega), ← hm_v11, ← hm_v10, ← hm_v9, ev_v8]; rfl)), hj0_5, hj0_6, hj0_7, hj0_8, hj0_9⟩⟩) hG hS dX2_setHearing_50
  · have hc6 : p3.toInt = 1 := (fi_eq rfl (show (1 : Int32).toInt = 1 by decide)).mp c9
    refine lv_aload_n hx hb dX2_setHearing_22 rfl (lv_at hl 1 rfl) ?_
    refine tk_get (ci := 2) (C := RX2) (T := TX2) (N := 20) (sp := (11, 70, 32, 8)) hx hb htl inX2 hown hK hG ht_a0 (by decide) tk_no rfl 3 (by decide) (htl _ mw_62) (fun _ h9 => h9) rfl dX2_setHearing_23 (fun v9 hf14 hV9 => ?_)
    obtain ⟨rfl, ht_ld70⟩ := hV9
    have ht_ld70 : t (ld 70) = (32, 8, 0) := ht_ld70
    refine fx_top (v := .ref (ld 70)) rfl ?_
    refine lv_iload_n hx hb dX2_setHearing_26 rfl (lv_at hl 2 rfl) ?_
    refine tk_iald hx hb hK hG ht_ld70 (by decide) (fun _ h => h) tk_no rfl (by omega) (by omega) dX2_setHearing_27 (fun v15 _ hz9 => ?_)
    have hr_v15 := tk_rng v15
    have ev_v15 : v15 = fh p1.toNatClampNeg := hj0_4.at hz9 (by have h9 : p1.toNatClampNeg = p1.toInt.toNat := rfl; omega)
    refine lv_iconst (v := 1) hx hb dX2_setHearing_28 (by decide) ?_
    refine lv_iload_n hx hb dX2_setHearing_29 rfl (lv_at hl 3 rfl) ?_
    obtain ⟨v16, hm_v16⟩ : ∃ z : Int32, (1 : Int32) <<< (p2 &&& 31) = z := ⟨_, rfl⟩
    refine lv_ishl hx hb dX2_setHearing_30 ?_
    refine fx_ti hm_v16 ?_
    have hq_v16 := tk_rng v16
    obtain ⟨v17, hm_v17⟩ : ∃ z : Int32, v15 ||| v16 = z := ⟨_, rfl⟩
    refine lv_ior hx hb dX2_setHearing_31 ?_
    refine fx_ti hm_v17 ?_
    have hq_v17 := tk_rng v17
    refine lv_goto (tgt := 47) hx hb dX2_setHearing_32 (by decide) ?_
    refine tk_iastC hx hb hK hG hS ht_ld70 (by decide) (fun _ => Iff.rfl) tk_no rfl (by omega) (by omega) trivial (tk_w.of ht_ld70 (by decide) (List.mem_of_getElem? (i := 0) rfl) (Nat.le_refl _) (Nat.le_refl _)) dX2_setHearing_47 hj0_4 (fun H locs hG hS hq9 hj19 => ?_)
    have hj19 : tk_c H (ld 70) 8 (upd fh p1.toNatClampNeg v17) := hj19
    have hj0_0 := hj0_0.kept (hq9 _ (tk_ne ht_a0 ht_ld70 (Or.inl (by decide))))
    have hj0_1 := hj0_1.kept (hq9 _ (tk_ne ht_a0 ht_ld70 (Or.inl (by decide))))
    have hj0_2 := hj0_2.kept (hq9 _ (tk_ne ht_a0 ht_ld70 (Or.inl (by decide))))
    have hj0_3 := hj0_3.kept (hq9 _ (tk_ne ht_a0 ht_ld70 (Or.inl (by decide))))
    have hj0_5 := hj0_5.kept (hq9 _ (tk_ne ht_ld80 ht_ld70 (Or.inl (by decide))))
    have hj0_6 := hj0_6.kept (hq9 _ (tk_ne ht_ld90 ht_ld70 (Or.inl (by decide))))
    have hj0_7 := hj0_7.kept (hq9 _ (tk_ne ht_ld100 ht_ld70 (Or.inl (by decide))))
    have hj0_8 := hj0_8.kept (hq9 _ (tk_ne ht_ld110 ht_ld70 (Or.inl (by decide))))
    have hj0_9 := hj0_9.kept (hq9 _ (tk_ne ht_ld120 ht_ld70 (Or.inl (by decide))))
    refine lv_iload hx hb dX2_setHearing_48 (lv_at hl 0 rfl) ?_
    exact tk_iret (v := v4) hx hb hr rfl hlocks (show 0 ≤ v4.toInt ∧ v4.toInt ≤ 1 ∧ v4 = (fh p1.toInt.toNat >>> (p2 &&& 31)) &&& 1 ∧ jC D ld a0 0 n0 n1 n2 n3 (upd fh p1.toInt.toNat (jh (fh p1.toInt.toNat) p2 p3)) fs fk q1 q2 q3 H from ⟨(by omega), (by omega), (by rw [← hm_v4, ← hm_v3, ev_v2]; rfl), ⟨hj0_0, hj0_1, hj0_2, hj0_3, (hj19.cg (by show upd fh p1.toInt.toNat v17 = upd fh p1.toInt.toNat _; congr 1; unfold jh; rw [if_pos (by omega), ← hm_v17, ← hm_v16, ev_v15]; rfl)), hj0_5, hj0_6, hj0_7, hj0_8, hj0_9⟩⟩) hG hS dX2_setHearing_50
set_option maxHeartbeats 4000000 in
set_option maxRecDepth 100000 in
theorem k_X12_hears_x (l : Launch) (D : va_G) (cy : Nat → ClassId) (ld : Nat → Nat) (t : tk_T) (a0 : Nat) (p1 : Int32) (p2 : Int32) (p3 : Int32) (g0 : Int32) (g15 : Int32) (n0 n1 n2 n3 : Int32) (fh fs fk q1 q2 q3 : Nat → Int32) (ht_a0 : t a0 = (13, 0, 0)) (ht_ld20 : t (ld 20) = (3, 0, 0)) (ht_ld70 : t (ld 70) = (32, 8, 0)) (ht_ld80 : t (ld 80) = (33, 10, 0)) (ht_ld90 : t (ld 90) = (34, 10, 0)) (ht_ld100 : t (ld 100) = (35, 10, 0)) (ht_ld110 : t (ld 110) = (36, 10, 0)) (ht_ld120 : t (ld 120) = (37, 10, 0)) (hp_0 : 0 ≤ n0.toInt) (hp_1 : n0.toInt ≤ 8) (hp_2 : 0 ≤ n1.toInt) (hp_3 : n1.toInt ≤ 10) (hp_4 : 0 ≤ n2.toInt) (hp_5 : n2.toInt ≤ 10) (hp_6 : 0 ≤ n3.toInt) (hp_7 : n3.toInt ≤ 8) (hp_8 : 0 ≤ g0.toInt) (hp_9 : g0.toInt ≤ 400) (hp_10 : (-2147483648) ≤ g15.toInt) (hp_11 : g15.toInt ≤ 2147483647) : Met l yX12_hears (wl yX12_hears cX12_hears 4 (some .int)) ({ frames := 5, cells := 0, slots := 0, locals := 280 }) (tp D cy ld t [] [.ref a0, .int p1, .int p2, .int p3] (fun H => tk_f D H a0 12 13 (.int g0) ∧ tk_f D H a0 12 15 (.int g15) ∧ jC D ld (ld 20) 0 n0 n1 n2 n3 fh fs fk q1 q2 q3 H)) (ti D cy ld t [] (fun r H => (p1.toInt + (-1) * p2.toInt = 0 → r.toInt + 1 = 0) ∧ (p3.toInt ≤ (-1) → r.toInt + 1 = 0) ∧ (2 ≤ p3.toInt → r.toInt + 1 = 0) ∧ (0 ≤ p1.toInt + (-1) * p2.toInt + (-1) → 0 ≤ p3.toInt → p3.toInt ≤ 1 → p1.toInt ≤ (-1) → r.toInt + 2 = 0) ∧ (0 ≤ p1.toInt + (-1) * p2.toInt + (-1) → 0 ≤ p3.toInt → p3.toInt ≤ 1 → 0 ≤ (-1) * n0.toInt + p1.toInt → r.toInt + 2 = 0) ∧ (0 ≤ p1.toInt + (-1) * p2.toInt + (-1) → 0 ≤ p3.toInt → p3.toInt ≤ 1 → p2.toInt ≤ (-1) → r.toInt + 2 = 0) ∧ (0 ≤ p1.toInt + (-1) * p2.toInt + (-1) → 0 ≤ p3.toInt → p3.toInt ≤ 1 → 0 ≤ (-1) * n0.toInt + p2.toInt → r.toInt + 2 = 0) ∧ (0 ≤ p1.toInt + (-1) * p2.toInt + (-1) → 0 ≤ p3.toInt → p3.toInt ≤ 1 → 0 ≤ p1.toInt → 0 ≤ n0.toInt + (-1) * p1.toInt + (-1) → 0 ≤ p2.toInt → 0 ≤ n0.toInt + (-1) * p2.toInt + (-1) → 0 ≤ r.toInt ∧ r.toInt ≤ 1) ∧ (0 ≤ (-1) * p1.toInt + p2.toInt + (-1) → 0 ≤ p3.toInt → p3.toInt ≤ 1 → p1.toInt ≤ (-1) → r.toInt + 2 = 0) ∧ (0 ≤ (-1) * p1.toInt + p2.toInt + (-1) → 0 ≤ p3.toInt → p3.toInt ≤ 1 → 0 ≤ (-1) * n0.toInt + p1.toInt → r.toInt + 2 = 0) ∧ (0 ≤ (-1) * p1.toInt + p2.toInt + (-1) → 0 ≤ p3.toInt → p3.toInt ≤ 1 → p2.toInt ≤ (-1) → r.toInt + 2 = 0) ∧ (0 ≤ (-1) * p1.toInt + p2.toInt + (-1) → 0 ≤ p3.toInt → p3.toInt ≤ 1 → 0 ≤ (-1) * n0.toInt + p2.toInt → r.toInt + 2 = 0) ∧ (0 ≤ (-1) * p1.toInt + p2.toInt + (-1) → 0 ≤ p3.toInt → p3.toInt ≤ 1 → 0 ≤ p1.toInt → 0 ≤ n0.toInt + (-1) * p1.toInt + (-1) → 0 ≤ p2.toInt → 0 ≤ n0.toInt + (-1) * p2.toInt + (-1) → 0 ≤ r.toInt ∧ r.toInt ≤ 1) ∧ (0 ≤ r.toInt → 0 ≤ p3.toInt ∧ p3.toInt ≤ 1 ∧ 0 ≤ p1.toInt ∧ 0 ≤ n0.toInt + (-1) * p1.toInt + (-1) ∧ 0 ≤ p2.toInt ∧ 0 ≤ n0.toInt + (-1) * p2.toInt + (-1)) ∧ tk_f D H a0 12 13 (.int g0) ∧ tk_f D H a0 12 15 (.int g15) ∧ (0 ≤ r.toInt → r = (fh p1.toInt.toNat >>> (p2 &&& 31)) &&& 1) ∧ jC D ld (ld 20) 0 n0 n1 n2 n3 (cif r (upd fh p1.toInt.toNat (jh (fh p1.toInt.toNat) p2 p3)) fh) fs fk q1 q2 q3 H) (tk_w t [(13, 0, 0), (20, 0, 0), (32, 0, 0)])) 0 0 (tk_w t [(13, 0, 0), (20, 0, 0), (32, 0, 0)]) := by
  refine tk_met (y := yX12_hears) (cc := cX12_hears) (maxL := 4) (ret := (some .int)) (av := [.ref a0, .int p1, .int p2, .int p3]) _ _ (by decide) (Nat.le_of_ble_eq_true rfl) ?_
  intro p e s m args below meth c hx hb hr hml hts htl hown hlocks hK H locs hH hG hS hB hZ ls hl
  have hown : s.vm.findClass RX12 = some m.cls := hown
  have hl : lv_has ls 4 [(0, .ref a0), (1, .int p1), (2, .int p2), (3, .int p3)] := hl
  obtain ⟨hg_0, hg_1, ⟨hj0_0, hj0_1, hj0_2, hj0_3, hj0_4, hj0_5, hj0_6, hj0_7, hj0_8, hj0_9⟩⟩ := hB
  have hr_p1 := tk_rng p1
  have hr_p2 := tk_rng p2
  have hr_p3 := tk_rng p3
  refine lv_iload_n hx hb dX12_hears_0 rfl (lv_at hl 1 rfl) ?_
  refine lv_iload_n hx hb dX12_hears_1 rfl (lv_at hl 2 rfl) ?_
  refine lv_icmp_eq (tgt := 14) hx hb dX12_hears_2 (by decide) (fun c9 => ?_) (fun c9 => ?_)
  · have hc1 : p1.toInt = p2.toInt := (fi_eq rfl rfl).mp c9
    refine lv_aload_n hx hb dX12_hears_14 rfl (lv_at hl 0 rfl) ?_
    refine lv_iconst (v := (-1)) hx hb dX12_hears_15 (by decide) ?_
    have hk_m1 : ((-1) : Int32).toInt = (-1) := by decide
    refine tk_Vi (As := [.int (-1)]) (rest := []) (ci := 12) ⟨hx, hb, hml, hown, hts⟩ hK hG hZ hS (k_X12_refuse_x l D cy ld t a0 (-1) g0 g15 ht_a0 (by omega) (by omega) (by omega) (by omega)) ⟨hg_0, hg_1⟩ ⟨callB_of 1 hts (wl_in mw_275) rfl rfl rfl (htl _ mw_2) (htl _ mw_272) hd_yX12_refuse ⟨(Nat.le_of_ble_eq_true rfl), (Nat.le_of_ble_eq_true rfl)⟩, htl _ mw_273, htl _ mw_274⟩ ht_a0 (by decide) tk_no rfl (tk_w.pick [0, 1] rfl) rfl hl.1 rfl (Nat.le_of_ble_eq_true rfl) dX12_hears_16 ⟨(Nat.le_of_ble_eq_true rfl), (Nat.le_of_ble_eq_true rfl)⟩ (fun v2 H locs hpo hG hS hq9 => ?_)
    have hj0_0 := hj0_0.call hq9 (tk_w.no ht_ld20 (by decide))
    have hj0_1 := hj0_1.call hq9 (tk_w.no ht_ld20 (by decide))
    have hj0_2 := hj0_2.call hq9 (tk_w.no ht_ld20 (by decide))
    have hj0_3 := hj0_3.call hq9 (tk_w.no ht_ld20 (by decide))
    have hj0_4 := hj0_4.call hq9 (tk_w.no ht_ld70 (by decide))
    have hj0_5 := hj0_5.call hq9 (tk_w.no ht_ld80 (by decide))
    have hj0_6 := hj0_6.call hq9 (tk_w.no ht_ld90 (by decide))
    have hj0_7 := hj0_7.call hq9 (tk_w.no ht_ld100 (by decide))
    have hj0_8 := hj0_8.call hq9 (tk_w.no ht_ld110 (by decide))
    have hj0_9 := hj0_9.call hq9 (tk_w.no ht_ld120 (by decide))
    obtain ⟨hpo4, hf5, hf6⟩ := hpo
    exact tk_iret (v := v2) hx hb hr rfl hlocks (show (p1.toInt + (-1) * p2.toInt = 0 → v2.toInt + 1 = 0) ∧ (p3.toInt ≤ (-1) → v2.toInt + 1 = 0) ∧ (2 ≤ p3.toInt → v2.toInt + 1 = 0) ∧ (0 ≤ p1.toInt + (-1) * p2.toInt + (-1) → 0 ≤ p3.toInt → p3.toInt ≤ 1 → p1.toInt ≤ (-1) → v2.toInt + 2 = 0) ∧ (0 ≤ p1.toInt + (-1) * p2.toInt + (-1) → 0 ≤ p3.toInt → p3.toInt ≤ 1 → 0 ≤ (-1) * n0.toInt + p1.toInt → v2.toInt + 2 = 0) ∧ (0 ≤ p1.toInt + (-1) * p2.toInt + (-1) → 0 ≤ p3.toInt → p3.toInt ≤ 1 → p2.toInt ≤ (-1) → v2.toInt + 2 = 0) ∧ (0 ≤ p1.toInt + (-1) * p2.toInt + (-1) → 0 ≤ p3.toInt → p3.toInt ≤ 1 → 0 ≤ (-1) * n0.toInt + p2.toInt → v2.toInt + 2 = 0) ∧ (0 ≤ p1.toInt + (-1) * p2.toInt + (-1) → 0 ≤ p3.toInt → p3.toInt ≤ 1 → 0 ≤ p1.toInt → 0 ≤ n0.toInt + (-1) * p1.toInt + (-1) → 0 ≤ p2.toInt → 0 ≤ n0.toInt + (-1) * p2.toInt + (-1) → 0 ≤ v2.toInt ∧ v2.toInt ≤ 1) ∧ (0 ≤ (-1) * p1.toInt + p2.toInt + (-1) → 0 ≤ p3.toInt → p3.toInt ≤ 1 → p1.toInt ≤ (-1) → v2.toInt + 2 = 0) ∧ (0 ≤ (-1) * p1.toInt + p2.toInt + (-1) → 0 ≤ p3.toInt → p3.toInt ≤ 1 → 0 ≤ (-1) * n0.toInt + p1.toInt → v2.toInt + 2 = 0) ∧ (0 ≤ (-1) * p1.toInt + p2.toInt + (-1) → 0 ≤ p3.toInt → p3.toInt ≤ 1 → p2.toInt ≤ (-1) → v2.toInt + 2 = 0) ∧ (0 ≤ (-1) * p1.toInt + p2.toInt + (-1) → 0 ≤ p3.toInt → p3.toInt ≤ 1 → 0 ≤ (-1) * n0.toInt + p2.toInt → v2.toInt + 2 = 0) ∧ (0 ≤ (-1) * p1.toInt + p2.toInt + (-1) → 0 ≤ p3.toInt → p3.toInt ≤ 1 → 0 ≤ p1.toInt → 0 ≤ n0.toInt + (-1) * p1.toInt + (-1) → 0 ≤ p2.toInt → 0 ≤ n0.toInt + (-1) * p2.toInt + (-1) → 0 ≤ v2.toInt ∧ v2.toInt ≤ 1) ∧ (0 ≤ v2.toInt → 0 ≤ p3.toInt ∧ p3.toInt ≤ 1 ∧ 0 ≤ p1.toInt ∧ 0 ≤ n0.toInt + (-1) * p1.toInt + (-1) ∧ 0 ≤ p2.toInt ∧ 0 ≤ n0.toInt + (-1) * p2.toInt + (-1)) ∧ tk_f D H a0 12 13 (.int g0) ∧ tk_f D H a0 12 15 (.int g15) ∧ (0 ≤ v2.toInt → v2 = (fh p1.toInt.toNat >>> (p2 &&& 31)) &&& 1) ∧ jC D ld (ld 20) 0 n0 n1 n2 n3 (cif v2 (upd fh p1.toInt.toNat (jh (fh p1.toInt.toNat) p2 p3)) fh) fs fk q1 q2 q3 H from ⟨(fun _ => by omega), (fun _ => by omega), (fun _ => by omega), (fun _ _ _ _ => by omega), (fun _ _ _ _ => by omega), (fun _ _ _ _ => by omega), (fun _ _ _ _ => by omega), (fun _ _ _ _ _ _ _ => ⟨by omega, by omega⟩), (fun _ _ _ _ => by omega), (fun _ _ _ _ => by omega), (fun _ _ _ _ => by omega), (fun _ _ _ _ => by omega), (fun _ _ _ _ _ _ _ => ⟨by omega, by omega⟩), (fun _ => ⟨by omega, by omega, by omega, by omega, by omega, by omega⟩), hf5, hf6, (fun h9 => (show False by omega).elim), ⟨hj0_0, hj0_1, hj0_2, hj0_3, (hj0_4.cg (cif_f (by omega)).symm), hj0_5, hj0_6, hj0_7, hj0_8, hj0_9⟩⟩) hG hS dX12_hears_19
  · have hc1 : ¬ (p1.toInt = p2.toInt) := fun h9 => c9 ((fi_eq rfl rfl).mpr h9)
    refine lv_iload_n hx hb dX12_hears_5 rfl (lv_at hl 3 rfl) ?_
    refine lv_iconst (v := 0) hx hb dX12_hears_6 (by decide) ?_
    refine lv_iconst (v := 1) hx hb dX12_hears_7 (by decide) ?_
    have hk_0 : (0 : Int32).toInt = 0 := by decide
    have hk_1 : (1 : Int32).toInt = 1 := by decide
    refine tk_Si (As := [.int p3, .int 0, .int 1]) (rest := []) ⟨hx, hb, hml, hown, hts⟩ hK hG hZ hS (k_X12_within_x l D cy ld t _ p3 0 1) trivial ⟨callB_of 3 hts (wl_in mw_262) rfl rfl rfl (htl _ mw_2) (htl _ mw_277) hd_yX12_within ⟨(Nat.le_of_ble_eq_true rfl), (Nat.le_of_ble_eq_true rfl)⟩, htl _ mw_261⟩ (tk_w.pick [] rfl) rfl hl.1 rfl (Nat.le_of_ble_eq_true rfl) dX12_hears_8 ⟨(Nat.le_of_ble_eq_true rfl), (Nat.le_of_ble_eq_true rfl)⟩ (fun v7 H locs hpo hG hS hq9 => ?_)
    have hg_0 := hg_0.call hq9 tk_w.nil
    have hg_1 := hg_1.call hq9 tk_w.nil
    have hj0_0 := hj0_0.call hq9 tk_w.nil
    have hj0_1 := hj0_1.call hq9 tk_w.nil
    have hj0_2 := hj0_2.call hq9 tk_w.nil
    have hj0_3 := hj0_3.call hq9 tk_w.nil
    have hj0_4 := hj0_4.call hq9 tk_w.nil
    have hj0_5 := hj0_5.call hq9 tk_w.nil
    have hj0_6 := hj0_6.call hq9 tk_w.nil
    have hj0_7 := hj0_7.call hq9 tk_w.nil
    have hj0_8 := hj0_8.call hq9 tk_w.nil
    have hj0_9 := hj0_9.call hq9 tk_w.nil
    obtain ⟨hpo9, hpo10, hpo11, hpo12, hpo13, hpo14⟩ := hpo
    refine lv_if_ne (tgt := 20) hx hb dX12_hears_11 (by decide) (fun c9 => ?_) (fun c9 => ?_)
    · have hc15 : ¬ (v7.toInt = 0) := fun h9 => c9 ((fi_eq rfl (show (0 : Int32).toInt = 0 by decide)).mpr h9)
      refine lv_aload_n hx hb dX12_hears_20 rfl (lv_at hl 0 rfl) ?_
      refine tk_get (ci := 12) (C := RX12) (T := TX12) (N := 17) (sp := (8, 20, 3, 0)) hx hb htl inX12 hown hK hG ht_a0 (by decide) tk_no rfl 0 (by decide) (htl _ mw_15) (fun _ h9 => h9) rfl dX12_hears_21 (fun v9 hf16 hV9 => ?_)
      obtain ⟨rfl, ht_ld20⟩ := hV9
      have ht_ld20 : t (ld 20) = (3, 0, 0) := ht_ld20
      refine fx_top (v := .ref (ld 20)) rfl ?_
      refine lv_iload_n hx hb dX12_hears_24 rfl (lv_at hl 1 rfl) ?_
      refine tk_Vi (As := [.int p1]) (rest := []) (ci := 2) ⟨hx, hb, hml, hown, hts⟩ hK hG hZ hS (k_X2_isSinger_x_x l D cy ld t (ld 20) p1 n0 ht_ld20 (by omega) (by omega)) hj0_0 ⟨callB_of 1 hts (wl_in mw_311) rfl rfl rfl (htl _ mw_14) (htl _ mw_308) hd_yX2_isSinger ⟨(Nat.le_of_ble_eq_true rfl), (Nat.le_of_ble_eq_true rfl)⟩, htl _ mw_309, htl _ mw_310⟩ ht_ld20 (by decide) tk_no rfl (tk_w.pick [] rfl) rfl hl.1 rfl (Nat.le_of_ble_eq_true rfl) dX12_hears_25 ⟨(Nat.le_of_ble_eq_true rfl), (Nat.le_of_ble_eq_true rfl)⟩ (fun v17 H locs hpo hG hS hq9 => ?_)
      have hg_0 := hg_0.call hq9 tk_w.nil
      have hg_1 := hg_1.call hq9 tk_w.nil
      have hj0_0 := hj0_0.call hq9 tk_w.nil
      have hj0_1 := hj0_1.call hq9 tk_w.nil
      have hj0_2 := hj0_2.call hq9 tk_w.nil
      have hj0_3 := hj0_3.call hq9 tk_w.nil
      have hj0_4 := hj0_4.call hq9 tk_w.nil
      have hj0_5 := hj0_5.call hq9 tk_w.nil
      have hj0_6 := hj0_6.call hq9 tk_w.nil
      have hj0_7 := hj0_7.call hq9 tk_w.nil
      have hj0_8 := hj0_8.call hq9 tk_w.nil
      have hj0_9 := hj0_9.call hq9 tk_w.nil
      obtain ⟨hpo19, hpo20, hpo21, hpo22, hpo23, hpo24⟩ := hpo
      refine lv_if_eq (tgt := 42) hx hb dX12_hears_28 (by decide) (fun c9 => ?_) (fun c9 => ?_)
      · have hc25 : v17.toInt = 0 := (fi_eq rfl (show (0 : Int32).toInt = 0 by decide)).mp c9
        refine lv_aload_n hx hb dX12_hears_42 rfl (lv_at hl 0 rfl) ?_
        refine lv_bipush (v := (-2)) hx hb dX12_hears_43 (by decide) ?_
        have hk_m2 : ((-2) : Int32).toInt = (-2) := by decide
        refine tk_Vi (As := [.int (-2)]) (rest := []) (ci := 12) ⟨hx, hb, hml, hown, hts⟩ hK hG hZ hS (k_X12_refuse_x l D cy ld t a0 (-2) g0 g15 ht_a0 (by omega) (by omega) (by omega) (by omega)) ⟨hg_0, hg_1⟩ ⟨callB_of 1 hts (wl_in mw_275) rfl rfl rfl (htl _ mw_2) (htl _ mw_272) hd_yX12_refuse ⟨(Nat.le_of_ble_eq_true rfl), (Nat.le_of_ble_eq_true rfl)⟩, htl _ mw_273, htl _ mw_274⟩ ht_a0 (by decide) tk_no rfl (tk_w.pick [0, 1] rfl) rfl hl.1 rfl (Nat.le_of_ble_eq_true rfl) dX12_hears_45 ⟨(Nat.le_of_ble_eq_true rfl), (Nat.le_of_ble_eq_true rfl)⟩ (fun v26 H locs hpo hG hS hq9 => ?_)
        have hj0_0 := hj0_0.call hq9 (tk_w.no ht_ld20 (by decide))
        have hj0_1 := hj0_1.call hq9 (tk_w.no ht_ld20 (by decide))
        have hj0_2 := hj0_2.call hq9 (tk_w.no ht_ld20 (by decide))
        have hj0_3 := hj0_3.call hq9 (tk_w.no ht_ld20 (by decide))
        have hj0_4 := hj0_4.call hq9 (tk_w.no ht_ld70 (by decide))
        have hj0_5 := hj0_5.call hq9 (tk_w.no ht_ld80 (by decide))
        have hj0_6 := hj0_6.call hq9 (tk_w.no ht_ld90 (by decide))
        have hj0_7 := hj0_7.call hq9 (tk_w.no ht_ld100 (by decide))
        have hj0_8 := hj0_8.call hq9 (tk_w.no ht_ld110 (by decide))
        have hj0_9 := hj0_9.call hq9 (tk_w.no ht_ld120 (by decide))
        obtain ⟨hpo28, hf29, hf30⟩ := hpo
        exact tk_iret (v := v26) hx hb hr rfl hlocks (show (p1.toInt + (-1) * p2.toInt = 0 → v26.toInt + 1 = 0) ∧ (p3.toInt ≤ (-1) → v26.toInt + 1 = 0) ∧ (2 ≤ p3.toInt → v26.toInt + 1 = 0) ∧ (0 ≤ p1.toInt + (-1) * p2.toInt + (-1) → 0 ≤ p3.toInt → p3.toInt ≤ 1 → p1.toInt ≤ (-1) → v26.toInt + 2 = 0) ∧ (0 ≤ p1.toInt + (-1) * p2.toInt + (-1) → 0 ≤ p3.toInt → p3.toInt ≤ 1 → 0 ≤ (-1) * n0.toInt + p1.toInt → v26.toInt + 2 = 0) ∧ (0 ≤ p1.toInt + (-1) * p2.toInt + (-1) → 0 ≤ p3.toInt → p3.toInt ≤ 1 → p2.toInt ≤ (-1) → v26.toInt + 2 = 0) ∧ (0 ≤ p1.toInt + (-1) * p2.toInt + (-1) → 0 ≤ p3.toInt → p3.toInt ≤ 1 → 0 ≤ (-1) * n0.toInt + p2.toInt → v26.toInt + 2 = 0) ∧ (0 ≤ p1.toInt + (-1) * p2.toInt + (-1) → 0 ≤ p3.toInt → p3.toInt ≤ 1 → 0 ≤ p1.toInt → 0 ≤ n0.toInt + (-1) * p1.toInt + (-1) → 0 ≤ p2.toInt → 0 ≤ n0.toInt + (-1) * p2.toInt + (-1) → 0 ≤ v26.toInt ∧ v26.toInt ≤ 1) ∧ (0 ≤ (-1) * p1.toInt + p2.toInt + (-1) → 0 ≤ p3.toInt → p3.toInt ≤ 1 → p1.toInt ≤ (-1) → v26.toInt + 2 = 0) ∧ (0 ≤ (-1) * p1.toInt + p2.toInt + (-1) → 0 ≤ p3.toInt → p3.toInt ≤ 1 → 0 ≤ (-1) * n0.toInt + p1.toInt → v26.toInt + 2 = 0) ∧ (0 ≤ (-1) * p1.toInt + p2.toInt + (-1) → 0 ≤ p3.toInt → p3.toInt ≤ 1 → p2.toInt ≤ (-1) → v26.toInt + 2 = 0) ∧ (0 ≤ (-1) * p1.toInt + p2.toInt + (-1) → 0 ≤ p3.toInt → p3.toInt ≤ 1 → 0 ≤ (-1) * n0.toInt + p2.toInt → v26.toInt + 2 = 0) ∧ (0 ≤ (-1) * p1.toInt + p2.toInt + (-1) → 0 ≤ p3.toInt → p3.toInt ≤ 1 → 0 ≤ p1.toInt → 0 ≤ n0.toInt + (-1) * p1.toInt + (-1) → 0 ≤ p2.toInt → 0 ≤ n0.toInt + (-1) * p2.toInt + (-1) → 0 ≤ v26.toInt ∧ v26.toInt ≤ 1) ∧ (0 ≤ v26.toInt → 0 ≤ p3.toInt ∧ p3.toInt ≤ 1 ∧ 0 ≤ p1.toInt ∧ 0 ≤ n0.toInt + (-1) * p1.toInt + (-1) ∧ 0 ≤ p2.toInt ∧ 0 ≤ n0.toInt + (-1) * p2.toInt + (-1)) ∧ tk_f D H a0 12 13 (.int g0) ∧ tk_f D H a0 12 15 (.int g15) ∧ (0 ≤ v26.toInt → v26 = (fh p1.toInt.toNat >>> (p2 &&& 31)) &&& 1) ∧ jC D ld (ld 20) 0 n0 n1 n2 n3 (cif v26 (upd fh p1.toInt.toNat (jh (fh p1.toInt.toNat) p2 p3)) fh) fs fk q1 q2 q3 H from ⟨(fun _ => by omega), (fun _ => by omega), (fun _ => by omega), (fun _ _ _ _ => by omega), (fun _ _ _ _ => by omega), (fun _ _ _ _ => by omega), (fun _ _ _ _ => by omega), (fun _ _ _ _ _ _ _ => ⟨by omega, by omega⟩), (fun _ _ _ _ => by omega), (fun _ _ _ _ => by omega), (fun _ _ _ _ => by omega), (fun _ _ _ _ => by omega), (fun _ _ _ _ _ _ _ => ⟨by omega, by omega⟩), (fun _ => ⟨by omega, by omega, by omega, by omega, by omega, by omega⟩), hf29, hf30, (fun h9 => (show False by omega).elim), ⟨hj0_0, hj0_1, hj0_2, hj0_3, (hj0_4.cg (cif_f (by omega)).symm), hj0_5, hj0_6, hj0_7, hj0_8, hj0_9⟩⟩) hG hS dX12_hears_48
      · have hc25 : ¬ (v17.toInt = 0) := fun h9 => c9 ((fi_eq rfl (show (0 : Int32).toInt = 0 by decide)).mpr h9)
        refine lv_aload_n hx hb dX12_hears_31 rfl (lv_at hl 0 rfl) ?_
        refine tk_get (ci := 12) (C := RX12) (T := TX12) (N := 17) (sp := (8, 20, 3, 0)) hx hb htl inX12 hown hK hG ht_a0 (by decide) tk_no rfl 0 (by decide) (htl _ mw_15) (fun _ h9 => h9) rfl dX12_hears_32 (fun v9 hf31 hV9 => ?_)
        obtain ⟨rfl, ht_ld20⟩ := hV9
        have ht_ld20 : t (ld 20) = (3, 0, 0) := ht_ld20
        refine fx_top (v := .ref (ld 20)) rfl ?_
        refine lv_iload_n hx hb dX12_hears_35 rfl (lv_at hl 2 rfl) ?_
        refine tk_Vi (As := [.int p2]) (rest := []) (ci := 2) ⟨hx, hb, hml, hown, hts⟩ hK hG hZ hS (k_X2_isSinger_x_x l D cy ld t (ld 20) p2 n0 ht_ld20 (by omega) (by omega)) hj0_0 ⟨callB_of 1 hts (wl_in mw_311) rfl rfl rfl (htl _ mw_14) (htl _ mw_308) hd_yX2_isSinger ⟨(Nat.le_of_ble_eq_true rfl), (Nat.le_of_ble_eq_true rfl)⟩, htl _ mw_309, htl _ mw_310⟩ ht_ld20 (by decide) tk_no rfl (tk_w.pick [] rfl) rfl hl.1 rfl (Nat.le_of_ble_eq_true rfl) dX12_hears_36 ⟨(Nat.le_of_ble_eq_true rfl), (Nat.le_of_ble_eq_true rfl)⟩ (fun v32 H locs hpo hG hS hq9 => ?_)
        have hg_0 := hg_0.call hq9 tk_w.nil
        have hg_1 := hg_1.call hq9 tk_w.nil
        have hj0_0 := hj0_0.call hq9 tk_w.nil
        have hj0_1 := hj0_1.call hq9 tk_w.nil
        have hj0_2 := hj0_2.call hq9 tk_w.nil
        have hj0_3 := hj0_3.call hq9 tk_w.nil
        have hj0_4 := hj0_4.call hq9 tk_w.nil
        have hj0_5 := hj0_5.call hq9 tk_w.nil
        have hj0_6 := hj0_6.call hq9 tk_w.nil
        have hj0_7 := hj0_7.call hq9 tk_w.nil
        have hj0_8 := hj0_8.call hq9 tk_w.nil
        have hj0_9 := hj0_9.call hq9 tk_w.nil
        obtain ⟨hpo34, hpo35, hpo36, hpo37, hpo38, hpo39⟩ := hpo
        refine lv_if_ne (tgt := 49) hx hb dX12_hears_39 (by decide) (fun c9 => ?_) (fun c9 => ?_)
        · have hc40 : ¬ (v32.toInt = 0) := fun h9 => c9 ((fi_eq rfl (show (0 : Int32).toInt = 0 by decide)).mpr h9)
          refine lv_aload_n hx hb dX12_hears_49 rfl (lv_at hl 0 rfl) ?_
          refine lv_aload_n hx hb dX12_hears_50 rfl (lv_at hl 0 rfl) ?_
          refine tk_get (ci := 12) (C := RX12) (T := TX12) (N := 17) (sp := (8, 20, 3, 0)) hx hb htl inX12 hown hK hG ht_a0 (by decide) tk_no rfl 0 (by decide) (htl _ mw_15) (fun _ h9 => h9) rfl dX12_hears_51 (fun v9 hf41 hV9 => ?_)
          obtain ⟨rfl, ht_ld20⟩ := hV9
          have ht_ld20 : t (ld 20) = (3, 0, 0) := ht_ld20
          refine fx_top (v := .ref (ld 20)) rfl ?_
          refine lv_iload_n hx hb dX12_hears_54 rfl (lv_at hl 1 rfl) ?_
          refine lv_iload_n hx hb dX12_hears_55 rfl (lv_at hl 2 rfl) ?_
          refine lv_iload_n hx hb dX12_hears_56 rfl (lv_at hl 3 rfl) ?_
          refine tk_Vi (As := [.int p1, .int p2, .int p3]) (rest := [.ref a0]) (ci := 2) ⟨hx, hb, hml, hown, hts⟩ hK hG hZ hS (k_X2_setHearing_x l D cy ld t (ld 20) p1 p2 p3 n0 n1 n2 n3 fh fs fk q1 q2 q3 ht_ld20 ht_ld70 ht_ld80 ht_ld90 ht_ld100 ht_ld110 ht_ld120 (by omega) (by omega) (by omega) (by omega) (by omega) (by omega) (by omega) (by omega) (by omega) (by omega) (by omega) (by omega)) ⟨hj0_0, hj0_1, hj0_2, hj0_3, hj0_4, hj0_5, hj0_6, hj0_7, hj0_8, hj0_9⟩ ⟨callB_of 3 hts (wl_in mw_381) rfl rfl rfl (htl _ mw_14) (htl _ mw_378) hd_yX2_setHearing ⟨(Nat.le_of_ble_eq_true rfl), (Nat.le_of_ble_eq_true rfl)⟩, htl _ mw_379, htl _ mw_380⟩ ht_ld20 (by decide) tk_no rfl (tk_w.pick [2] rfl) rfl hl.1 rfl (Nat.le_of_ble_eq_true rfl) dX12_hears_57 ⟨(Nat.le_of_ble_eq_true rfl), (Nat.le_of_ble_eq_true rfl)⟩ (fun v42 H locs hpo hG hS hq9 => ?_)
          have hg_0 := hg_0.call hq9 (tk_w.no ht_a0 (by decide))
          have hg_1 := hg_1.call hq9 (tk_w.no ht_a0 (by decide))
          have hj0_0 := hj0_0.call hq9 (tk_w.no ht_ld20 (by decide))
          have hj0_1 := hj0_1.call hq9 (tk_w.no ht_ld20 (by decide))
          have hj0_2 := hj0_2.call hq9 (tk_w.no ht_ld20 (by decide))
          have hj0_3 := hj0_3.call hq9 (tk_w.no ht_ld20 (by decide))
          have hj0_5 := hj0_5.call hq9 (tk_w.no ht_ld80 (by decide))
          have hj0_6 := hj0_6.call hq9 (tk_w.no ht_ld90 (by decide))
          have hj0_7 := hj0_7.call hq9 (tk_w.no ht_ld100 (by decide))
          have hj0_8 := hj0_8.call hq9 (tk_w.no ht_ld110 (by decide))
          have hj0_9 := hj0_9.call hq9 (tk_w.no ht_ld120 (by decide))
          obtain ⟨hpo44, hpo45, hraw46, ⟨hj47, hj48, hj49, hj50, hj51, hj52, hj53, hj54, hj55, hj56⟩⟩ := hpo
          refine tk_Vi (As := [.int v42]) (rest := []) (ci := 12) ⟨hx, hb, hml, hown, hts⟩ hK hG hZ hS (k_X12_accept_x l D cy ld t a0 v42 g0 g15 ht_a0 (by omega) (by omega) (by omega) (by omega)) ⟨hg_0, hg_1⟩ ⟨callB_of 1 hts (wl_in mw_281) rfl rfl rfl (htl _ mw_2) (htl _ mw_278) hd_yX12_accept ⟨(Nat.le_of_ble_eq_true rfl), (Nat.le_of_ble_eq_true rfl)⟩, htl _ mw_279, htl _ mw_280⟩ ht_a0 (by decide) tk_no rfl (tk_w.pick [0] rfl) rfl hl.1 rfl (Nat.le_of_ble_eq_true rfl) dX12_hears_60 ⟨(Nat.le_of_ble_eq_true rfl), (Nat.le_of_ble_eq_true rfl)⟩ (fun v57 H locs hpo hG hS hq9 => ?_)
          have hj47 := hj47.call hq9 (tk_w.no ht_ld20 (by decide))
          have hj48 := hj48.call hq9 (tk_w.no ht_ld20 (by decide))
          have hj49 := hj49.call hq9 (tk_w.no ht_ld20 (by decide))
          have hj50 := hj50.call hq9 (tk_w.no ht_ld20 (by decide))
          have hj52 := hj52.call hq9 (tk_w.no ht_ld80 (by decide))
          have hj53 := hj53.call hq9 (tk_w.no ht_ld90 (by decide))
          have hj54 := hj54.call hq9 (tk_w.no ht_ld100 (by decide))
          have hj55 := hj55.call hq9 (tk_w.no ht_ld110 (by decide))
          have hj56 := hj56.call hq9 (tk_w.no ht_ld120 (by decide))
          have hj51 := hj51.call hq9 (tk_w.no ht_ld70 (by decide))
          obtain ⟨hpo59, hf60, hf61⟩ := hpo
          exact tk_iret (v := v57) hx hb hr rfl hlocks (show (p1.toInt + (-1) * p2.toInt = 0 → v57.toInt + 1 = 0) ∧ (p3.toInt ≤ (-1) → v57.toInt + 1 = 0) ∧ (2 ≤ p3.toInt → v57.toInt + 1 = 0) ∧ (0 ≤ p1.toInt + (-1) * p2.toInt + (-1) → 0 ≤ p3.toInt → p3.toInt ≤ 1 → p1.toInt ≤ (-1) → v57.toInt + 2 = 0) ∧ (0 ≤ p1.toInt + (-1) * p2.toInt + (-1) → 0 ≤ p3.toInt → p3.toInt ≤ 1 → 0 ≤ (-1) * n0.toInt + p1.toInt → v57.toInt + 2 = 0) ∧ (0 ≤ p1.toInt + (-1) * p2.toInt + (-1) → 0 ≤ p3.toInt → p3.toInt ≤ 1 → p2.toInt ≤ (-1) → v57.toInt + 2 = 0) ∧ (0 ≤ p1.toInt + (-1) * p2.toInt + (-1) → 0 ≤ p3.toInt → p3.toInt ≤ 1 → 0 ≤ (-1) * n0.toInt + p2.toInt → v57.toInt + 2 = 0) ∧ (0 ≤ p1.toInt + (-1) * p2.toInt + (-1) → 0 ≤ p3.toInt → p3.toInt ≤ 1 → 0 ≤ p1.toInt → 0 ≤ n0.toInt + (-1) * p1.toInt + (-1) → 0 ≤ p2.toInt → 0 ≤ n0.toInt + (-1) * p2.toInt + (-1) → 0 ≤ v57.toInt ∧ v57.toInt ≤ 1) ∧ (0 ≤ (-1) * p1.toInt + p2.toInt + (-1) → 0 ≤ p3.toInt → p3.toInt ≤ 1 → p1.toInt ≤ (-1) → v57.toInt + 2 = 0) ∧ (0 ≤ (-1) * p1.toInt + p2.toInt + (-1) → 0 ≤ p3.toInt → p3.toInt ≤ 1 → 0 ≤ (-1) * n0.toInt + p1.toInt → v57.toInt + 2 = 0) ∧ (0 ≤ (-1) * p1.toInt + p2.toInt + (-1) → 0 ≤ p3.toInt → p3.toInt ≤ 1 → p2.toInt ≤ (-1) → v57.toInt + 2 = 0) ∧ (0 ≤ (-1) * p1.toInt + p2.toInt + (-1) → 0 ≤ p3.toInt → p3.toInt ≤ 1 → 0 ≤ (-1) * n0.toInt + p2.toInt → v57.toInt + 2 = 0) ∧ (0 ≤ (-1) * p1.toInt + p2.toInt + (-1) → 0 ≤ p3.toInt → p3.toInt ≤ 1 → 0 ≤ p1.toInt → 0 ≤ n0.toInt + (-1) * p1.toInt + (-1) → 0 ≤ p2.toInt → 0 ≤ n0.toInt + (-1) * p2.toInt + (-1) → 0 ≤ v57.toInt ∧ v57.toInt ≤ 1) ∧ (0 ≤ v57.toInt → 0 ≤ p3.toInt ∧ p3.toInt ≤ 1 ∧ 0 ≤ p1.toInt ∧ 0 ≤ n0.toInt + (-1) * p1.toInt + (-1) ∧ 0 ≤ p2.toInt ∧ 0 ≤ n0.toInt + (-1) * p2.toInt + (-1)) ∧ tk_f D H a0 12 13 (.int g0) ∧ tk_f D H a0 12 15 (.int g15) ∧ (0 ≤ v57.toInt → v57 = (fh p1.toInt.toNat >>> (p2 &&& 31)) &&& 1) ∧ jC D ld (ld 20) 0 n0 n1 n2 n3 (cif v57 (upd fh p1.toInt.toNat (jh (fh p1.toInt.toNat) p2 p3)) fh) fs fk q1 q2 q3 H from ⟨(fun _ => by omega), (fun _ => by omega), (fun _ => by omega), (fun _ _ _ _ => by omega), (fun _ _ _ _ => by omega), (fun _ _ _ _ => by omega), (fun _ _ _ _ => by omega), (fun _ _ _ _ _ _ _ => ⟨by omega, by omega⟩), (fun _ _ _ _ => by omega), (fun _ _ _ _ => by omega), (fun _ _ _ _ => by omega), (fun _ _ _ _ => by omega), (fun _ _ _ _ _ _ _ => ⟨by omega, by omega⟩), (fun _ => ⟨by omega, by omega, by omega, by omega, by omega, by omega⟩), hf60, hf61, (fun _ => by rw [(fi_eq rfl rfl).mpr (show v57.toInt = v42.toInt by omega)]; exact hraw46), ⟨hj47, hj48, hj49, hj50, (hj51.cg (cif_t (by omega)).symm), hj52, hj53, hj54, hj55, hj56⟩⟩) hG hS dX12_hears_63
        · have hc40 : v32.toInt = 0 := (fi_eq rfl (show (0 : Int32).toInt = 0 by decide)).mp c9
          refine lv_aload_n hx hb dX12_hears_42 rfl (lv_at hl 0 rfl) ?_
          refine lv_bipush (v := (-2)) hx hb dX12_hears_43 (by decide) ?_
          have hk_m2 : ((-2) : Int32).toInt = (-2) := by decide
          refine tk_Vi (As := [.int (-2)]) (rest := []) (ci := 12) ⟨hx, hb, hml, hown, hts⟩ hK hG hZ hS (k_X12_refuse_x l D cy ld t a0 (-2) g0 g15 ht_a0 (by omega) (by omega) (by omega) (by omega)) ⟨hg_0, hg_1⟩ ⟨callB_of 1 hts (wl_in mw_275) rfl rfl rfl (htl _ mw_2) (htl _ mw_272) hd_yX12_refuse ⟨(Nat.le_of_ble_eq_true rfl), (Nat.le_of_ble_eq_true rfl)⟩, htl _ mw_273, htl _ mw_274⟩ ht_a0 (by decide) tk_no rfl (tk_w.pick [0, 1] rfl) rfl hl.1 rfl (Nat.le_of_ble_eq_true rfl) dX12_hears_45 ⟨(Nat.le_of_ble_eq_true rfl), (Nat.le_of_ble_eq_true rfl)⟩ (fun v62 H locs hpo hG hS hq9 => ?_)
          have hj0_0 := hj0_0.call hq9 (tk_w.no ht_ld20 (by decide))
          have hj0_1 := hj0_1.call hq9 (tk_w.no ht_ld20 (by decide))
          have hj0_2 := hj0_2.call hq9 (tk_w.no ht_ld20 (by decide))
          have hj0_3 := hj0_3.call hq9 (tk_w.no ht_ld20 (by decide))
          have hj0_4 := hj0_4.call hq9 (tk_w.no ht_ld70 (by decide))
          have hj0_5 := hj0_5.call hq9 (tk_w.no ht_ld80 (by decide))
          have hj0_6 := hj0_6.call hq9 (tk_w.no ht_ld90 (by decide))
          have hj0_7 := hj0_7.call hq9 (tk_w.no ht_ld100 (by decide))
          have hj0_8 := hj0_8.call hq9 (tk_w.no ht_ld110 (by decide))
          have hj0_9 := hj0_9.call hq9 (tk_w.no ht_ld120 (by decide))
          obtain ⟨hpo64, hf65, hf66⟩ := hpo
          exact tk_iret (v := v62) hx hb hr rfl hlocks (show (p1.toInt + (-1) * p2.toInt = 0 → v62.toInt + 1 = 0) ∧ (p3.toInt ≤ (-1) → v62.toInt + 1 = 0) ∧ (2 ≤ p3.toInt → v62.toInt + 1 = 0) ∧ (0 ≤ p1.toInt + (-1) * p2.toInt + (-1) → 0 ≤ p3.toInt → p3.toInt ≤ 1 → p1.toInt ≤ (-1) → v62.toInt + 2 = 0) ∧ (0 ≤ p1.toInt + (-1) * p2.toInt + (-1) → 0 ≤ p3.toInt → p3.toInt ≤ 1 → 0 ≤ (-1) * n0.toInt + p1.toInt → v62.toInt + 2 = 0) ∧ (0 ≤ p1.toInt + (-1) * p2.toInt + (-1) → 0 ≤ p3.toInt → p3.toInt ≤ 1 → p2.toInt ≤ (-1) → v62.toInt + 2 = 0) ∧ (0 ≤ p1.toInt + (-1) * p2.toInt + (-1) → 0 ≤ p3.toInt → p3.toInt ≤ 1 → 0 ≤ (-1) * n0.toInt + p2.toInt → v62.toInt + 2 = 0) ∧ (0 ≤ p1.toInt + (-1) * p2.toInt + (-1) → 0 ≤ p3.toInt → p3.toInt ≤ 1 → 0 ≤ p1.toInt → 0 ≤ n0.toInt + (-1) * p1.toInt + (-1) → 0 ≤ p2.toInt → 0 ≤ n0.toInt + (-1) * p2.toInt + (-1) → 0 ≤ v62.toInt ∧ v62.toInt ≤ 1) ∧ (0 ≤ (-1) * p1.toInt + p2.toInt + (-1) → 0 ≤ p3.toInt → p3.toInt ≤ 1 → p1.toInt ≤ (-1) → v62.toInt + 2 = 0) ∧ (0 ≤ (-1) * p1.toInt + p2.toInt + (-1) → 0 ≤ p3.toInt → p3.toInt ≤ 1 → 0 ≤ (-1) * n0.toInt + p1.toInt → v62.toInt + 2 = 0) ∧ (0 ≤ (-1) * p1.toInt + p2.toInt + (-1) → 0 ≤ p3.toInt → p3.toInt ≤ 1 → p2.toInt ≤ (-1) → v62.toInt + 2 = 0) ∧ (0 ≤ (-1) * p1.toInt + p2.toInt + (-1) → 0 ≤ p3.toInt → p3.toInt ≤ 1 → 0 ≤ (-1) * n0.toInt + p2.toInt → v62.toInt + 2 = 0) ∧ (0 ≤ (-1) * p1.toInt + p2.toInt + (-1) → 0 ≤ p3.toInt → p3.toInt ≤ 1 → 0 ≤ p1.toInt → 0 ≤ n0.toInt + (-1) * p1.toInt + (-1) → 0 ≤ p2.toInt → 0 ≤ n0.toInt + (-1) * p2.toInt + (-1) → 0 ≤ v62.toInt ∧ v62.toInt ≤ 1) ∧ (0 ≤ v62.toInt → 0 ≤ p3.toInt ∧ p3.toInt ≤ 1 ∧ 0 ≤ p1.toInt ∧ 0 ≤ n0.toInt + (-1) * p1.toInt + (-1) ∧ 0 ≤ p2.toInt ∧ 0 ≤ n0.toInt + (-1) * p2.toInt + (-1)) ∧ tk_f D H a0 12 13 (.int g0) ∧ tk_f D H a0 12 15 (.int g15) ∧ (0 ≤ v62.toInt → v62 = (fh p1.toInt.toNat >>> (p2 &&& 31)) &&& 1) ∧ jC D ld (ld 20) 0 n0 n1 n2 n3 (cif v62 (upd fh p1.toInt.toNat (jh (fh p1.toInt.toNat) p2 p3)) fh) fs fk q1 q2 q3 H from ⟨(fun _ => by omega), (fun _ => by omega), (fun _ => by omega), (fun _ _ _ _ => by omega), (fun _ _ _ _ => by omega), (fun _ _ _ _ => by omega), (fun _ _ _ _ => by omega), (fun _ _ _ _ _ _ _ => ⟨by omega, by omega⟩), (fun _ _ _ _ => by omega), (fun _ _ _ _ => by omega), (fun _ _ _ _ => by omega), (fun _ _ _ _ => by omega), (fun _ _ _ _ _ _ _ => ⟨by omega, by omega⟩), (fun _ => ⟨by omega, by omega, by omega, by omega, by omega, by omega⟩), hf65, hf66, (fun h9 => (show False by omega).elim), ⟨hj0_0, hj0_1, hj0_2, hj0_3, (hj0_4.cg (cif_f (by omega)).symm), hj0_5, hj0_6, hj0_7, hj0_8, hj0_9⟩⟩) hG hS dX12_hears_48
    · have hc15 : v7.toInt = 0 := (fi_eq rfl (show (0 : Int32).toInt = 0 by decide)).mp c9
      refine lv_aload_n hx hb dX12_hears_14 rfl (lv_at hl 0 rfl) ?_
      refine lv_iconst (v := (-1)) hx hb dX12_hears_15 (by decide) ?_
      have hk_m1 : ((-1) : Int32).toInt = (-1) := by decide
      refine tk_Vi (As := [.int (-1)]) (rest := []) (ci := 12) ⟨hx, hb, hml, hown, hts⟩ hK hG hZ hS (k_X12_refuse_x l D cy ld t a0 (-1) g0 g15 ht_a0 (by omega) (by omega) (by omega) (by omega)) ⟨hg_0, hg_1⟩ ⟨callB_of 1 hts (wl_in mw_275) rfl rfl rfl (htl _ mw_2) (htl _ mw_272) hd_yX12_refuse ⟨(Nat.le_of_ble_eq_true rfl), (Nat.le_of_ble_eq_true rfl)⟩, htl _ mw_273, htl _ mw_274⟩ ht_a0 (by decide) tk_no rfl (tk_w.pick [0, 1] rfl) rfl hl.1 rfl (Nat.le_of_ble_eq_true rfl) dX12_hears_16 ⟨(Nat.le_of_ble_eq_true rfl), (Nat.le_of_ble_eq_true rfl)⟩ (fun v67 H locs hpo hG hS hq9 => ?_)
      have hj0_0 := hj0_0.call hq9 (tk_w.no ht_ld20 (by decide))
      have hj0_1 := hj0_1.call hq9 (tk_w.no ht_ld20 (by decide))
      have hj0_2 := hj0_2.call hq9 (tk_w.no ht_ld20 (by decide))
      have hj0_3 := hj0_3.call hq9 (tk_w.no ht_ld20 (by decide))
      have hj0_4 := hj0_4.call hq9 (tk_w.no ht_ld70 (by decide))
      have hj0_5 := hj0_5.call hq9 (tk_w.no ht_ld80 (by decide))
      have hj0_6 := hj0_6.call hq9 (tk_w.no ht_ld90 (by decide))
      have hj0_7 := hj0_7.call hq9 (tk_w.no ht_ld100 (by decide))
      have hj0_8 := hj0_8.call hq9 (tk_w.no ht_ld110 (by decide))
      have hj0_9 := hj0_9.call hq9 (tk_w.no ht_ld120 (by decide))
      obtain ⟨hpo69, hf70, hf71⟩ := hpo
      exact tk_iret (v := v67) hx hb hr rfl hlocks (show (p1.toInt + (-1) * p2.toInt = 0 → v67.toInt + 1 = 0) ∧ (p3.toInt ≤ (-1) → v67.toInt + 1 = 0) ∧ (2 ≤ p3.toInt → v67.toInt + 1 = 0) ∧ (0 ≤ p1.toInt + (-1) * p2.toInt + (-1) → 0 ≤ p3.toInt → p3.toInt ≤ 1 → p1.toInt ≤ (-1) → v67.toInt + 2 = 0) ∧ (0 ≤ p1.toInt + (-1) * p2.toInt + (-1) → 0 ≤ p3.toInt → p3.toInt ≤ 1 → 0 ≤ (-1) * n0.toInt + p1.toInt → v67.toInt + 2 = 0) ∧ (0 ≤ p1.toInt + (-1) * p2.toInt + (-1) → 0 ≤ p3.toInt → p3.toInt ≤ 1 → p2.toInt ≤ (-1) → v67.toInt + 2 = 0) ∧ (0 ≤ p1.toInt + (-1) * p2.toInt + (-1) → 0 ≤ p3.toInt → p3.toInt ≤ 1 → 0 ≤ (-1) * n0.toInt + p2.toInt → v67.toInt + 2 = 0) ∧ (0 ≤ p1.toInt + (-1) * p2.toInt + (-1) → 0 ≤ p3.toInt → p3.toInt ≤ 1 → 0 ≤ p1.toInt → 0 ≤ n0.toInt + (-1) * p1.toInt + (-1) → 0 ≤ p2.toInt → 0 ≤ n0.toInt + (-1) * p2.toInt + (-1) → 0 ≤ v67.toInt ∧ v67.toInt ≤ 1) ∧ (0 ≤ (-1) * p1.toInt + p2.toInt + (-1) → 0 ≤ p3.toInt → p3.toInt ≤ 1 → p1.toInt ≤ (-1) → v67.toInt + 2 = 0) ∧ (0 ≤ (-1) * p1.toInt + p2.toInt + (-1) → 0 ≤ p3.toInt → p3.toInt ≤ 1 → 0 ≤ (-1) * n0.toInt + p1.toInt → v67.toInt + 2 = 0) ∧ (0 ≤ (-1) * p1.toInt + p2.toInt + (-1) → 0 ≤ p3.toInt → p3.toInt ≤ 1 → p2.toInt ≤ (-1) → v67.toInt + 2 = 0) ∧ (0 ≤ (-1) * p1.toInt + p2.toInt + (-1) → 0 ≤ p3.toInt → p3.toInt ≤ 1 → 0 ≤ (-1) * n0.toInt + p2.toInt → v67.toInt + 2 = 0) ∧ (0 ≤ (-1) * p1.toInt + p2.toInt + (-1) → 0 ≤ p3.toInt → p3.toInt ≤ 1 → 0 ≤ p1.toInt → 0 ≤ n0.toInt + (-1) * p1.toInt + (-1) → 0 ≤ p2.toInt → 0 ≤ n0.toInt + (-1) * p2.toInt + (-1) → 0 ≤ v67.toInt ∧ v67.toInt ≤ 1) ∧ (0 ≤ v67.toInt → 0 ≤ p3.toInt ∧ p3.toInt ≤ 1 ∧ 0 ≤ p1.toInt ∧ 0 ≤ n0.toInt + (-1) * p1.toInt + (-1) ∧ 0 ≤ p2.toInt ∧ 0 ≤ n0.toInt + (-1) * p2.toInt + (-1)) ∧ tk_f D H a0 12 13 (.int g0) ∧ tk_f D H a0 12 15 (.int g15) ∧ (0 ≤ v67.toInt → v67 = (fh p1.toInt.toNat >>> (p2 &&& 31)) &&& 1) ∧ jC D ld (ld 20) 0 n0 n1 n2 n3 (cif v67 (upd fh p1.toInt.toNat (jh (fh p1.toInt.toNat) p2 p3)) fh) fs fk q1 q2 q3 H from ⟨(fun _ => by omega), (fun _ => by omega), (fun _ => by omega), (fun _ _ _ _ => by omega), (fun _ _ _ _ => by omega), (fun _ _ _ _ => by omega), (fun _ _ _ _ => by omega), (fun _ _ _ _ _ _ _ => ⟨by omega, by omega⟩), (fun _ _ _ _ => by omega), (fun _ _ _ _ => by omega), (fun _ _ _ _ => by omega), (fun _ _ _ _ => by omega), (fun _ _ _ _ _ _ _ => ⟨by omega, by omega⟩), (fun _ => ⟨by omega, by omega, by omega, by omega, by omega, by omega⟩), hf70, hf71, (fun h9 => (show False by omega).elim), ⟨hj0_0, hj0_1, hj0_2, hj0_3, (hj0_4.cg (cif_f (by omega)).symm), hj0_5, hj0_6, hj0_7, hj0_8, hj0_9⟩⟩) hG hS dX12_hears_19
set_option maxHeartbeats 4000000 in
set_option maxRecDepth 100000 in
theorem k_X12_cows_x (l : Launch) (D : va_G) (cy : Nat → ClassId) (ld : Nat → Nat) (t : tk_T) (a0 : Nat) (p1 : Int32) (p2 : Int32) (g0 : Int32) (g15 : Int32) (ht_a0 : t a0 = (13, 0, 0)) (hp_0 : 0 ≤ g0.toInt) (hp_1 : g0.toInt ≤ 400) (hp_2 : (-2147483648) ≤ g15.toInt) (hp_3 : g15.toInt ≤ 2147483647) : Met l yX12_cows (wl yX12_cows cX12_cows 4 (some .int)) ({ frames := 5, cells := 0, slots := 0, locals := 280 }) (tp D cy ld t [] [.ref a0, .int p1, .int p2] (fun H => tk_f D H a0 12 13 (.int g0) ∧ tk_f D H a0 12 15 (.int g15))) (ti D cy ld t [] (fun r H => tk_f D H a0 12 13 (.int g0) ∧ tk_f D H a0 12 15 (.int g15)) (tk_w t [(13, 0, 0), (20, 0, 0), (2, 0, 0)])) 0 0 (tk_w t [(13, 0, 0), (20, 0, 0), (2, 0, 0)]) := by
  refine tk_met (y := yX12_cows) (cc := cX12_cows) (maxL := 4) (ret := (some .int)) (av := [.ref a0, .int p1, .int p2]) _ _ (by decide) (Nat.le_of_ble_eq_true rfl) ?_
  intro p e s m args below meth c hx hb hr hml hts htl hown hlocks hK H locs hH hG hS hB hZ ls hl
  have hown : s.vm.findClass RX12 = some m.cls := hown
  have hl : lv_has ls 4 [(0, .ref a0), (1, .int p1), (2, .int p2)] := hl
  obtain ⟨hg_0, hg_1⟩ := hB
  have hr_p1 := tk_rng p1
  have hr_p2 := tk_rng p2
  refine lv_iload_n hx hb dX12_cows_0 rfl (lv_at hl 1 rfl) ?_
  refine lv_iconst (v := 0) hx hb dX12_cows_1 (by decide) ?_
  refine lv_iconst (v := 1) hx hb dX12_cows_2 (by decide) ?_
  have hk_0 : (0 : Int32).toInt = 0 := by decide
  have hk_1 : (1 : Int32).toInt = 1 := by decide
  refine tk_Si (As := [.int p1, .int 0, .int 1]) (rest := []) ⟨hx, hb, hml, hown, hts⟩ hK hG hZ hS (k_X12_within_x l D cy ld t _ p1 0 1) trivial ⟨callB_of 3 hts (wl_in mw_262) rfl rfl rfl (htl _ mw_2) (htl _ mw_277) hd_yX12_within ⟨(Nat.le_of_ble_eq_true rfl), (Nat.le_of_ble_eq_true rfl)⟩, htl _ mw_261⟩ (tk_w.pick [] rfl) rfl hl.1 rfl (Nat.le_of_ble_eq_true rfl) dX12_cows_3 ⟨(Nat.le_of_ble_eq_true rfl), (Nat.le_of_ble_eq_true rfl)⟩ (fun v1 H locs hpo hG hS hq9 => ?_)
  have hg_0 := hg_0.call hq9 tk_w.nil
  have hg_1 := hg_1.call hq9 tk_w.nil
  obtain ⟨hpo3, hpo4, hpo5, hpo6, hpo7, hpo8⟩ := hpo
  refine lv_if_eq (tgt := 20) hx hb dX12_cows_6 (by decide) (fun c9 => ?_) (fun c9 => ?_)
  · have hc9 : v1.toInt = 0 := (fi_eq rfl (show (0 : Int32).toInt = 0 by decide)).mp c9
    refine lv_aload_n hx hb dX12_cows_20 rfl (lv_at hl 0 rfl) ?_
    refine lv_iconst (v := (-1)) hx hb dX12_cows_21 (by decide) ?_
    have hk_m1 : ((-1) : Int32).toInt = (-1) := by decide
    refine tk_Vi (As := [.int (-1)]) (rest := []) (ci := 12) ⟨hx, hb, hml, hown, hts⟩ hK hG hZ hS (k_X12_refuse_x l D cy ld t a0 (-1) g0 g15 ht_a0 (by omega) (by omega) (by omega) (by omega)) ⟨hg_0, hg_1⟩ ⟨callB_of 1 hts (wl_in mw_275) rfl rfl rfl (htl _ mw_2) (htl _ mw_272) hd_yX12_refuse ⟨(Nat.le_of_ble_eq_true rfl), (Nat.le_of_ble_eq_true rfl)⟩, htl _ mw_273, htl _ mw_274⟩ ht_a0 (by decide) tk_no rfl (tk_w.pick [0, 1] rfl) rfl hl.1 rfl (Nat.le_of_ble_eq_true rfl) dX12_cows_22 ⟨(Nat.le_of_ble_eq_true rfl), (Nat.le_of_ble_eq_true rfl)⟩ (fun v10 H locs hpo hG hS hq9 => ?_)
    obtain ⟨hpo12, hf13, hf14⟩ := hpo
    exact tk_iret (v := v10) hx hb hr rfl hlocks (show tk_f D H a0 12 13 (.int g0) ∧ tk_f D H a0 12 15 (.int g15) from ⟨hf13, hf14⟩) hG hS dX12_cows_25
  · have hc9 : ¬ (v1.toInt = 0) := fun h9 => c9 ((fi_eq rfl (show (0 : Int32).toInt = 0 by decide)).mpr h9)
    refine lv_iload_n hx hb dX12_cows_9 rfl (lv_at hl 2 rfl) ?_
    refine lv_iconst (v := 0) hx hb dX12_cows_10 (by decide) ?_
    refine lv_sipush (v := 9999) hx hb dX12_cows_11 (by decide) ?_
    have hk_0 : (0 : Int32).toInt = 0 := by decide
    have hk_9999 : (9999 : Int32).toInt = 9999 := by decide
    refine tk_Si (As := [.int p2, .int 0, .int 9999]) (rest := []) ⟨hx, hb, hml, hown, hts⟩ hK hG hZ hS (k_X12_within_x l D cy ld t _ p2 0 9999) trivial ⟨callB_of 3 hts (wl_in mw_262) rfl rfl rfl (htl _ mw_2) (htl _ mw_277) hd_yX12_within ⟨(Nat.le_of_ble_eq_true rfl), (Nat.le_of_ble_eq_true rfl)⟩, htl _ mw_261⟩ (tk_w.pick [] rfl) rfl hl.1 rfl (Nat.le_of_ble_eq_true rfl) dX12_cows_14 ⟨(Nat.le_of_ble_eq_true rfl), (Nat.le_of_ble_eq_true rfl)⟩ (fun v15 H locs hpo hG hS hq9 => ?_)
    have hg_0 := hg_0.call hq9 tk_w.nil
    have hg_1 := hg_1.call hq9 tk_w.nil
    obtain ⟨hpo17, hpo18, hpo19, hpo20, hpo21, hpo22⟩ := hpo
    refine lv_if_ne (tgt := 26) hx hb dX12_cows_17 (by decide) (fun c9 => ?_) (fun c9 => ?_)
    · have hc23 : ¬ (v15.toInt = 0) := fun h9 => c9 ((fi_eq rfl (show (0 : Int32).toInt = 0 by decide)).mpr h9)
      refine lv_aload_n hx hb dX12_cows_26 rfl (lv_at hl 0 rfl) ?_
      refine tk_get (ci := 12) (C := RX12) (T := TX12) (N := 17) (sp := (8, 20, 3, 0)) hx hb htl inX12 hown hK hG ht_a0 (by decide) tk_no rfl 0 (by decide) (htl _ mw_15) (fun _ h9 => h9) rfl dX12_cows_27 (fun v9 hf24 hV9 => ?_)
      obtain ⟨rfl, ht_ld20⟩ := hV9
      have ht_ld20 : t (ld 20) = (3, 0, 0) := ht_ld20
      refine fx_top (v := .ref (ld 20)) rfl ?_
      refine tk_get (ci := 2) (C := RX2) (T := TX2) (N := 20) (sp := (9, 40, 10, 0)) hx hb htl inX2 hown hK hG ht_ld20 (by decide) tk_no rfl 19 (by decide) (htl _ mw_302) (fun _ h9 => h9) rfl dX12_cows_30 (fun v9 hf25 hV9 => ?_)
      obtain ⟨rfl, ht_ld40⟩ := hV9
      have ht_ld40 : t (ld 40) = (10, 0, 0) := ht_ld40
      refine fx_top (v := .ref (ld 40)) rfl ?_
      refine tk_get (ci := 9) (C := RX9) (T := TX9) (N := 11) (sp := (1, 20, 2, 0)) hx hb htl inX9 hown hK hG ht_ld40 (by decide) tk_no rfl 3 (by decide) (htl _ mw_390) (fun _ h9 => h9) rfl dX12_cows_33 (fun v9 hf26 hV9 => ?_)
      obtain ⟨b27, rfl, ht_b27⟩ := hV9
      have ht_b27 : t b27 = (20, 2, 0) := ht_b27
      refine lv_iload_n hx hb dX12_cows_36 rfl (lv_at hl 1 rfl) ?_
      refine tk_iald hx hb hK hG ht_b27 (by decide) (fun _ h => h) tk_no rfl (by omega) (by omega) dX12_cows_37 (fun v28 _ _ => ?_)
      have hr_v28 := tk_rng v28
      refine lv_istore_n (lv' := [(3, .int v28), (0, .ref a0), (1, .int p1), (2, .int p2)]) hx hb dX12_cows_38 rfl hl (by decide) rfl (fun ls hl => ?_)
      refine lv_aload_n hx hb dX12_cows_39 rfl (lv_at hl 1 rfl) ?_
      refine tk_get (ci := 12) (C := RX12) (T := TX12) (N := 17) (sp := (8, 20, 3, 0)) hx hb htl inX12 hown hK hG ht_a0 (by decide) tk_no rfl 0 (by decide) (htl _ mw_15) (fun _ h9 => h9) rfl dX12_cows_40 (fun v9 hf29 hV9 => ?_)
      obtain ⟨rfl, ht_ld20⟩ := hV9
      have ht_ld20 : t (ld 20) = (3, 0, 0) := ht_ld20
      refine fx_top (v := .ref (ld 20)) rfl ?_
      refine tk_get (ci := 2) (C := RX2) (T := TX2) (N := 20) (sp := (9, 40, 10, 0)) hx hb htl inX2 hown hK hG ht_ld20 (by decide) tk_no rfl 19 (by decide) (htl _ mw_302) (fun _ h9 => h9) rfl dX12_cows_43 (fun v9 hf30 hV9 => ?_)
      obtain ⟨rfl, ht_ld40⟩ := hV9
      have ht_ld40 : t (ld 40) = (10, 0, 0) := ht_ld40
      refine fx_top (v := .ref (ld 40)) rfl ?_
      refine tk_get (ci := 9) (C := RX9) (T := TX9) (N := 11) (sp := (1, 20, 2, 0)) hx hb htl inX9 hown hK hG ht_ld40 (by decide) tk_no rfl 3 (by decide) (htl _ mw_390) (fun _ h9 => h9) rfl dX12_cows_46 (fun v9 hf31 hV9 => ?_)
      obtain ⟨b32, rfl, ht_b32⟩ := hV9
      have ht_b32 : t b32 = (20, 2, 0) := ht_b32
      refine lv_iload_n hx hb dX12_cows_49 rfl (lv_at hl 2 rfl) ?_
      refine lv_iload_n hx hb dX12_cows_50 rfl (lv_at hl 3 rfl) ?_
      refine tk_iast hx hb hK hG hS ht_b32 (by decide) (fun _ => Iff.rfl) tk_no rfl (by omega) (by omega) trivial (tk_w.of ht_b32 (by decide) (List.mem_of_getElem? (i := 1) rfl) (Nat.le_refl _) (Nat.le_refl _)) dX12_cows_51 (fun H locs hG hS hq9 => ?_)
      have hg_0 := hg_0.kept (hq9 _ (tk_ne ht_a0 ht_b32 (Or.inl (by decide))))
      have hg_1 := hg_1.kept (hq9 _ (tk_ne ht_a0 ht_b32 (Or.inl (by decide))))
      refine lv_aload_n hx hb dX12_cows_52 rfl (lv_at hl 1 rfl) ?_
      refine tk_get (ci := 12) (C := RX12) (T := TX12) (N := 17) (sp := (6, 2, 0, 0)) hx hb htl inX12 hown hK hG ht_a0 (by decide) tk_no rfl 4 (by decide) (htl _ mw_26) (fun _ h9 => h9) rfl dX12_cows_53 (fun v9 hf34 hV9 => ?_)
      obtain ⟨b35, rfl, ht_b35⟩ := hV9
      have ht_b35 : t b35 = (2, 0, 0) := ht_b35
      refine tk_Vv (As := []) (rest := []) (ci := 1) ⟨hx, hb, hml, hown, hts⟩ hK hG hZ hS (k_X1_clearUndone l D cy ld t b35 ht_b35) trivial ⟨callB_of 0 hts (wl_in mw_266) rfl rfl rfl (htl _ mw_25) (htl _ mw_263) hd_yX1_clearUndone ⟨(Nat.le_of_ble_eq_true rfl), (Nat.le_of_ble_eq_true rfl)⟩, htl _ mw_264, htl _ mw_265⟩ ht_b35 (by decide) tk_no rfl (tk_w.pick [2] rfl) rfl hl.1 rfl (Nat.le_of_ble_eq_true rfl) dX12_cows_56 ⟨(Nat.le_of_ble_eq_true rfl), (Nat.le_of_ble_eq_true rfl)⟩ (fun H locs hpo hG hS hq9 => ?_)
      have hg_0 := hg_0.call hq9 (tk_w.no ht_a0 (by decide))
      have hg_1 := hg_1.call hq9 (tk_w.no ht_a0 (by decide))
      refine lv_aload_n hx hb dX12_cows_59 rfl (lv_at hl 1 rfl) ?_
      refine lv_iload_n hx hb dX12_cows_60 rfl (lv_at hl 0 rfl) ?_
      refine tk_Vi (As := [.int v28]) (rest := []) (ci := 12) ⟨hx, hb, hml, hown, hts⟩ hK hG hZ hS (k_X12_accept_x l D cy ld t a0 v28 g0 g15 ht_a0 (by omega) (by omega) (by omega) (by omega)) ⟨hg_0, hg_1⟩ ⟨callB_of 1 hts (wl_in mw_281) rfl rfl rfl (htl _ mw_2) (htl _ mw_278) hd_yX12_accept ⟨(Nat.le_of_ble_eq_true rfl), (Nat.le_of_ble_eq_true rfl)⟩, htl _ mw_279, htl _ mw_280⟩ ht_a0 (by decide) tk_no rfl (tk_w.pick [0] rfl) rfl hl.1 rfl (Nat.le_of_ble_eq_true rfl) dX12_cows_61 ⟨(Nat.le_of_ble_eq_true rfl), (Nat.le_of_ble_eq_true rfl)⟩ (fun v37 H locs hpo hG hS hq9 => ?_)
      obtain ⟨hpo39, hf40, hf41⟩ := hpo
      exact tk_iret (v := v37) hx hb hr rfl hlocks (show tk_f D H a0 12 13 (.int g0) ∧ tk_f D H a0 12 15 (.int g15) from ⟨hf40, hf41⟩) hG hS dX12_cows_64
    · have hc23 : v15.toInt = 0 := (fi_eq rfl (show (0 : Int32).toInt = 0 by decide)).mp c9
      refine lv_aload_n hx hb dX12_cows_20 rfl (lv_at hl 0 rfl) ?_
      refine lv_iconst (v := (-1)) hx hb dX12_cows_21 (by decide) ?_
      have hk_m1 : ((-1) : Int32).toInt = (-1) := by decide
      refine tk_Vi (As := [.int (-1)]) (rest := []) (ci := 12) ⟨hx, hb, hml, hown, hts⟩ hK hG hZ hS (k_X12_refuse_x l D cy ld t a0 (-1) g0 g15 ht_a0 (by omega) (by omega) (by omega) (by omega)) ⟨hg_0, hg_1⟩ ⟨callB_of 1 hts (wl_in mw_275) rfl rfl rfl (htl _ mw_2) (htl _ mw_272) hd_yX12_refuse ⟨(Nat.le_of_ble_eq_true rfl), (Nat.le_of_ble_eq_true rfl)⟩, htl _ mw_273, htl _ mw_274⟩ ht_a0 (by decide) tk_no rfl (tk_w.pick [0, 1] rfl) rfl hl.1 rfl (Nat.le_of_ble_eq_true rfl) dX12_cows_22 ⟨(Nat.le_of_ble_eq_true rfl), (Nat.le_of_ble_eq_true rfl)⟩ (fun v42 H locs hpo hG hS hq9 => ?_)
      obtain ⟨hpo44, hf45, hf46⟩ := hpo
      exact tk_iret (v := v42) hx hb hr rfl hlocks (show tk_f D H a0 12 13 (.int g0) ∧ tk_f D H a0 12 15 (.int g15) from ⟨hf45, hf46⟩) hG hS dX12_cows_25
set_option maxHeartbeats 4000000 in
set_option maxRecDepth 100000 in
theorem k_X2_setTerm_x (l : Launch) (D : va_G) (cy : Nat → ClassId) (ld : Nat → Nat) (t : tk_T) (a0 : Nat) (p1 : Int32) (p2 : Int32) (n0 n1 n2 n3 : Int32) (fh fs fk q1 q2 q3 : Nat → Int32) (ht_a0 : t a0 = (3, 0, 0)) (ht_ld70 : t (ld 70) = (32, 8, 0)) (ht_ld80 : t (ld 80) = (33, 10, 0)) (ht_ld90 : t (ld 90) = (34, 10, 0)) (ht_ld100 : t (ld 100) = (35, 10, 0)) (ht_ld110 : t (ld 110) = (36, 10, 0)) (ht_ld120 : t (ld 120) = (37, 10, 0)) (hp_0 : 0 ≤ n0.toInt) (hp_1 : n0.toInt ≤ 8) (hp_2 : 0 ≤ n1.toInt) (hp_3 : n1.toInt ≤ 10) (hp_4 : 0 ≤ n2.toInt) (hp_5 : n2.toInt ≤ 10) (hp_6 : 0 ≤ n3.toInt) (hp_7 : n3.toInt ≤ 8) : Met l yX2_setTerm (wl yX2_setTerm cX2_setTerm 3 none) ({ frames := 3, cells := 0, slots := 0, locals := 140 }) (tp D cy ld t [] [.ref a0, .int p1, .int p2] (fun H => jC D ld a0 0 n0 n1 n2 n3 fh fs fk q1 q2 q3 H)) (tv D cy ld t [] (fun H => jC D ld a0 0 n0 n1 n2 n3 fh fs fk q1 q2 q3 H) (tk_w t [(10, 0, 0), (3, 0, 0)])) 0 0 (tk_w t [(10, 0, 0), (3, 0, 0)]) := by
  refine tk_met (y := yX2_setTerm) (cc := cX2_setTerm) (maxL := 3) (ret := none) (av := [.ref a0, .int p1, .int p2]) _ _ (by decide) (Nat.le_of_ble_eq_true rfl) ?_
  intro p e s m args below meth c hx hb hr hml hts htl hown hlocks hK H locs hH hG hS hB hZ ls hl
  have hown : s.vm.findClass RX2 = some m.cls := hown
  have hl : lv_has ls 3 [(0, .ref a0), (1, .int p1), (2, .int p2)] := hl
  have ⟨hj0_0, hj0_1, hj0_2, hj0_3, hj0_4, hj0_5, hj0_6, hj0_7, hj0_8, hj0_9⟩ := hB
  have hr_p1 := tk_rng p1
  have hr_p2 := tk_rng p2
  refine lv_iload_n hx hb dX2_setTerm_0 rfl (lv_at hl 1 rfl) ?_
  rcases (show p1.toInt = 0 ∨ p1.toInt = 1 ∨ p1.toInt = 2 ∨ p1.toInt < 0 ∨ 2 < p1.toInt by omega) with hsw | hsw | hsw | hsw | hsw
  · refine lv_tableIn (off := 27) (tgt := 28) hx hb dX2_setTerm_1 (by omega) (by omega) (by rw [hsw]; rfl) (by decide) ?_
    refine lv_aload_n hx hb dX2_setTerm_28 rfl (lv_at hl 0 rfl) ?_
    refine tk_get (ci := 2) (C := RX2) (T := TX2) (N := 20) (sp := (9, 40, 10, 0)) hx hb htl inX2 hown hK hG ht_a0 (by decide) tk_no rfl 19 (by decide) (htl _ mw_77) (fun _ h9 => h9) rfl dX2_setTerm_29 (fun v9 hf1 hV9 => ?_)
    obtain ⟨rfl, ht_ld40⟩ := hV9
    have ht_ld40 : t (ld 40) = (10, 0, 0) := ht_ld40
    refine fx_top (v := .ref (ld 40)) rfl ?_
    refine lv_iload_n hx hb dX2_setTerm_32 rfl (lv_at hl 2 rfl) ?_
    refine tk_put (ci := 9) (v := .int p2) (ty := .int) (C := RX9) (T := TX9) (N := 11) (sp := (0, (-2147483648), 2147483647, 0)) hx hb htl inX9 tyX9 tyX9_ok nmX9 hown hK hG hS ht_ld40 (by decide) tk_no rfl 4 (by decide) (htl _ mw_408) (fun _ h9 => h9) rfl (tyX9_ok 4 (by decide)) rfl rfl rfl (tk_V0 (tk_rng _).1 (tk_rng _).2) (fun _ h => tk_X10 h (by decide) (by decide)) (tk_w.of ht_ld40 (by decide) (List.mem_of_getElem? (i := 0) rfl) (Nat.le_refl _) (Nat.le_refl _)) dX2_setTerm_33 (fun H locs hG hS hf2 hq9 hj9 => ?_)
    have hj0_0 := hj0_0.kept (hq9 _ (tk_ne ht_a0 ht_ld40 (Or.inl (by decide))))
    have hj0_1 := hj0_1.kept (hq9 _ (tk_ne ht_a0 ht_ld40 (Or.inl (by decide))))
    have hj0_2 := hj0_2.kept (hq9 _ (tk_ne ht_a0 ht_ld40 (Or.inl (by decide))))
    have hj0_3 := hj0_3.kept (hq9 _ (tk_ne ht_a0 ht_ld40 (Or.inl (by decide))))
    have hj0_4 := hj0_4.kept (hq9 _ (tk_ne ht_ld70 ht_ld40 (Or.inl (by decide))))
    have hj0_5 := hj0_5.kept (hq9 _ (tk_ne ht_ld80 ht_ld40 (Or.inl (by decide))))
    have hj0_6 := hj0_6.kept (hq9 _ (tk_ne ht_ld90 ht_ld40 (Or.inl (by decide))))
    have hj0_7 := hj0_7.kept (hq9 _ (tk_ne ht_ld100 ht_ld40 (Or.inl (by decide))))
    have hj0_8 := hj0_8.kept (hq9 _ (tk_ne ht_ld110 ht_ld40 (Or.inl (by decide))))
    have hj0_9 := hj0_9.kept (hq9 _ (tk_ne ht_ld120 ht_ld40 (Or.inl (by decide))))
    refine lv_goto (tgt := 60) hx hb dX2_setTerm_36 (by decide) ?_
    exact tk_vret hx hb hr hlocks (show jC D ld a0 0 n0 n1 n2 n3 fh fs fk q1 q2 q3 H from ⟨hj0_0, hj0_1, hj0_2, hj0_3, hj0_4, hj0_5, hj0_6, hj0_7, hj0_8, hj0_9⟩) hG hS dX2_setTerm_60
  · refine lv_tableIn (off := 38) (tgt := 39) hx hb dX2_setTerm_1 (by omega) (by omega) (by rw [hsw]; rfl) (by decide) ?_
    refine lv_aload_n hx hb dX2_setTerm_39 rfl (lv_at hl 0 rfl) ?_
    refine lv_iload_n hx hb dX2_setTerm_40 rfl (lv_at hl 2 rfl) ?_
    refine tk_put (ci := 2) (v := .int p2) (ty := .int) (C := RX2) (T := TX2) (N := 20) (sp := (0, (-2147483648), 2147483647, 0)) hx hb htl inX2 tyX2 tyX2_ok nmX2 hown hK hG hS ht_a0 (by decide) tk_no rfl 16 (by decide) (htl _ mw_72) (fun _ h9 => h9) rfl (tyX2_ok 16 (by decide)) rfl rfl rfl (tk_V0 (tk_rng _).1 (tk_rng _).2) (fun _ h => h) (tk_w.of ht_a0 (by decide) (List.mem_of_getElem? (i := 1) rfl) (Nat.le_refl _) (Nat.le_refl _)) dX2_setTerm_41 (fun H locs hG hS hf4 hq9 hj9 => ?_)
    have hj0_0 := hj9 0 _ (by decide) (by decide) hj0_0
    have hj0_1 := hj9 4 _ (by decide) (by decide) hj0_1
    have hj0_2 := hj9 7 _ (by decide) (by decide) hj0_2
    have hj0_3 := hj9 11 _ (by decide) (by decide) hj0_3
    have hj0_4 := hj0_4.kept (hq9 _ (tk_ne ht_ld70 ht_a0 (Or.inl (by decide))))
    have hj0_5 := hj0_5.kept (hq9 _ (tk_ne ht_ld80 ht_a0 (Or.inl (by decide))))
    have hj0_6 := hj0_6.kept (hq9 _ (tk_ne ht_ld90 ht_a0 (Or.inl (by decide))))
    have hj0_7 := hj0_7.kept (hq9 _ (tk_ne ht_ld100 ht_a0 (Or.inl (by decide))))
    have hj0_8 := hj0_8.kept (hq9 _ (tk_ne ht_ld110 ht_a0 (Or.inl (by decide))))
    have hj0_9 := hj0_9.kept (hq9 _ (tk_ne ht_ld120 ht_a0 (Or.inl (by decide))))
    refine lv_goto (tgt := 60) hx hb dX2_setTerm_44 (by decide) ?_
    exact tk_vret hx hb hr hlocks (show jC D ld a0 0 n0 n1 n2 n3 fh fs fk q1 q2 q3 H from ⟨hj0_0, hj0_1, hj0_2, hj0_3, hj0_4, hj0_5, hj0_6, hj0_7, hj0_8, hj0_9⟩) hG hS dX2_setTerm_60
  · refine lv_tableIn (off := 46) (tgt := 47) hx hb dX2_setTerm_1 (by omega) (by omega) (by rw [hsw]; rfl) (by decide) ?_
    refine lv_aload_n hx hb dX2_setTerm_47 rfl (lv_at hl 0 rfl) ?_
    refine lv_iload_n hx hb dX2_setTerm_48 rfl (lv_at hl 2 rfl) ?_
    refine tk_put (ci := 2) (v := .int p2) (ty := .int) (C := RX2) (T := TX2) (N := 20) (sp := (0, (-2147483648), 2147483647, 0)) hx hb htl inX2 tyX2 tyX2_ok nmX2 hown hK hG hS ht_a0 (by decide) tk_no rfl 17 (by decide) (htl _ mw_73) (fun _ h9 => h9) rfl (tyX2_ok 17 (by decide)) rfl rfl rfl (tk_V0 (tk_rng _).1 (tk_rng _).2) (fun _ h => h) (tk_w.of ht_a0 (by decide) (List.mem_of_getElem? (i := 1) rfl) (Nat.le_refl _) (Nat.le_refl _)) dX2_setTerm_49 (fun H locs hG hS hf6 hq9 hj9 => ?_)
    have hj0_0 := hj9 0 _ (by decide) (by decide) hj0_0
    have hj0_1 := hj9 4 _ (by decide) (by decide) hj0_1
    have hj0_2 := hj9 7 _ (by decide) (by decide) hj0_2
    have hj0_3 := hj9 11 _ (by decide) (by decide) hj0_3
    have hj0_4 := hj0_4.kept (hq9 _ (tk_ne ht_ld70 ht_a0 (Or.inl (by decide))))
    have hj0_5 := hj0_5.kept (hq9 _ (tk_ne ht_ld80 ht_a0 (Or.inl (by decide))))
    have hj0_6 := hj0_6.kept (hq9 _ (tk_ne ht_ld90 ht_a0 (Or.inl (by decide))))
    have hj0_7 := hj0_7.kept (hq9 _ (tk_ne ht_ld100 ht_a0 (Or.inl (by decide))))
    have hj0_8 := hj0_8.kept (hq9 _ (tk_ne ht_ld110 ht_a0 (Or.inl (by decide))))
    have hj0_9 := hj0_9.kept (hq9 _ (tk_ne ht_ld120 ht_a0 (Or.inl (by decide))))
    refine lv_goto (tgt := 60) hx hb dX2_setTerm_52 (by decide) ?_
    exact tk_vret hx hb hr hlocks (show jC D ld a0 0 n0 n1 n2 n3 fh fs fk q1 q2 q3 H from ⟨hj0_0, hj0_1, hj0_2, hj0_3, hj0_4, hj0_5, hj0_6, hj0_7, hj0_8, hj0_9⟩) hG hS dX2_setTerm_60
  · refine lv_tableOut (tgt := 55) hx hb dX2_setTerm_1 (by omega) (by decide) ?_
    refine lv_aload_n hx hb dX2_setTerm_55 rfl (lv_at hl 0 rfl) ?_
    refine lv_iload_n hx hb dX2_setTerm_56 rfl (lv_at hl 2 rfl) ?_
    refine tk_put (ci := 2) (v := .int p2) (ty := .int) (C := RX2) (T := TX2) (N := 20) (sp := (0, (-2147483648), 2147483647, 0)) hx hb htl inX2 tyX2 tyX2_ok nmX2 hown hK hG hS ht_a0 (by decide) tk_no rfl 18 (by decide) (htl _ mw_409) (fun _ h9 => h9) rfl (tyX2_ok 18 (by decide)) rfl rfl rfl (tk_V0 (tk_rng _).1 (tk_rng _).2) (fun _ h => h) (tk_w.of ht_a0 (by decide) (List.mem_of_getElem? (i := 1) rfl) (Nat.le_refl _) (Nat.le_refl _)) dX2_setTerm_57 (fun H locs hG hS hf8 hq9 hj9 => ?_)
    have hj0_0 := hj9 0 _ (by decide) (by decide) hj0_0
    have hj0_1 := hj9 4 _ (by decide) (by decide) hj0_1
    have hj0_2 := hj9 7 _ (by decide) (by decide) hj0_2
    have hj0_3 := hj9 11 _ (by decide) (by decide) hj0_3
    have hj0_4 := hj0_4.kept (hq9 _ (tk_ne ht_ld70 ht_a0 (Or.inl (by decide))))
    have hj0_5 := hj0_5.kept (hq9 _ (tk_ne ht_ld80 ht_a0 (Or.inl (by decide))))
    have hj0_6 := hj0_6.kept (hq9 _ (tk_ne ht_ld90 ht_a0 (Or.inl (by decide))))
    have hj0_7 := hj0_7.kept (hq9 _ (tk_ne ht_ld100 ht_a0 (Or.inl (by decide))))
    have hj0_8 := hj0_8.kept (hq9 _ (tk_ne ht_ld110 ht_a0 (Or.inl (by decide))))
    have hj0_9 := hj0_9.kept (hq9 _ (tk_ne ht_ld120 ht_a0 (Or.inl (by decide))))
    exact tk_vret hx hb hr hlocks (show jC D ld a0 0 n0 n1 n2 n3 fh fs fk q1 q2 q3 H from ⟨hj0_0, hj0_1, hj0_2, hj0_3, hj0_4, hj0_5, hj0_6, hj0_7, hj0_8, hj0_9⟩) hG hS dX2_setTerm_60
  · refine lv_tableOut (tgt := 55) hx hb dX2_setTerm_1 (by omega) (by decide) ?_
    refine lv_aload_n hx hb dX2_setTerm_55 rfl (lv_at hl 0 rfl) ?_
    refine lv_iload_n hx hb dX2_setTerm_56 rfl (lv_at hl 2 rfl) ?_
    refine tk_put (ci := 2) (v := .int p2) (ty := .int) (C := RX2) (T := TX2) (N := 20) (sp := (0, (-2147483648), 2147483647, 0)) hx hb htl inX2 tyX2 tyX2_ok nmX2 hown hK hG hS ht_a0 (by decide) tk_no rfl 18 (by decide) (htl _ mw_409) (fun _ h9 => h9) rfl (tyX2_ok 18 (by decide)) rfl rfl rfl (tk_V0 (tk_rng _).1 (tk_rng _).2) (fun _ h => h) (tk_w.of ht_a0 (by decide) (List.mem_of_getElem? (i := 1) rfl) (Nat.le_refl _) (Nat.le_refl _)) dX2_setTerm_57 (fun H locs hG hS hf10 hq9 hj9 => ?_)
    have hj0_0 := hj9 0 _ (by decide) (by decide) hj0_0
    have hj0_1 := hj9 4 _ (by decide) (by decide) hj0_1
    have hj0_2 := hj9 7 _ (by decide) (by decide) hj0_2
    have hj0_3 := hj9 11 _ (by decide) (by decide) hj0_3
    have hj0_4 := hj0_4.kept (hq9 _ (tk_ne ht_ld70 ht_a0 (Or.inl (by decide))))
    have hj0_5 := hj0_5.kept (hq9 _ (tk_ne ht_ld80 ht_a0 (Or.inl (by decide))))
    have hj0_6 := hj0_6.kept (hq9 _ (tk_ne ht_ld90 ht_a0 (Or.inl (by decide))))
    have hj0_7 := hj0_7.kept (hq9 _ (tk_ne ht_ld100 ht_a0 (Or.inl (by decide))))
    have hj0_8 := hj0_8.kept (hq9 _ (tk_ne ht_ld110 ht_a0 (Or.inl (by decide))))
    have hj0_9 := hj0_9.kept (hq9 _ (tk_ne ht_ld120 ht_a0 (Or.inl (by decide))))
    exact tk_vret hx hb hr hlocks (show jC D ld a0 0 n0 n1 n2 n3 fh fs fk q1 q2 q3 H from ⟨hj0_0, hj0_1, hj0_2, hj0_3, hj0_4, hj0_5, hj0_6, hj0_7, hj0_8, hj0_9⟩) hG hS dX2_setTerm_60
set_option maxHeartbeats 4000000 in
set_option maxRecDepth 100000 in
theorem k_X12_terms_x (l : Launch) (D : va_G) (cy : Nat → ClassId) (ld : Nat → Nat) (t : tk_T) (a0 : Nat) (p1 : Int32) (p2 : Int32) (g0 : Int32) (g15 : Int32) (n0 n1 n2 n3 : Int32) (fh fs fk q1 q2 q3 : Nat → Int32) (ht_a0 : t a0 = (13, 0, 0)) (ht_ld20 : t (ld 20) = (3, 0, 0)) (ht_ld70 : t (ld 70) = (32, 8, 0)) (ht_ld80 : t (ld 80) = (33, 10, 0)) (ht_ld90 : t (ld 90) = (34, 10, 0)) (ht_ld100 : t (ld 100) = (35, 10, 0)) (ht_ld110 : t (ld 110) = (36, 10, 0)) (ht_ld120 : t (ld 120) = (37, 10, 0)) (hp_0 : 0 ≤ n0.toInt) (hp_1 : n0.toInt ≤ 8) (hp_2 : 0 ≤ n1.toInt) (hp_3 : n1.toInt ≤ 10) (hp_4 : 0 ≤ n2.toInt) (hp_5 : n2.toInt ≤ 10) (hp_6 : 0 ≤ n3.toInt) (hp_7 : n3.toInt ≤ 8) (hp_8 : 0 ≤ g0.toInt) (hp_9 : g0.toInt ≤ 400) (hp_10 : (-2147483648) ≤ g15.toInt) (hp_11 : g15.toInt ≤ 2147483647) : Met l yX12_terms (wl yX12_terms cX12_terms 6 (some .int)) ({ frames := 5, cells := 0, slots := 0, locals := 280 }) (tp D cy ld t [] [.ref a0, .int p1, .int p2] (fun H => tk_f D H a0 12 13 (.int g0) ∧ tk_f D H a0 12 15 (.int g15) ∧ jC D ld (ld 20) 0 n0 n1 n2 n3 fh fs fk q1 q2 q3 H)) (ti D cy ld t [] (fun r H => tk_f D H a0 12 13 (.int g0) ∧ tk_f D H a0 12 15 (.int g15) ∧ jC D ld (ld 20) 0 n0 n1 n2 n3 fh fs fk q1 q2 q3 H) (tk_w t [(13, 0, 0), (20, 0, 0), (10, 0, 0), (3, 0, 0), (2, 0, 0)])) 0 0 (tk_w t [(13, 0, 0), (20, 0, 0), (10, 0, 0), (3, 0, 0), (2, 0, 0)]) := by
  refine tk_met (y := yX12_terms) (cc := cX12_terms) (maxL := 6) (ret := (some .int)) (av := [.ref a0, .int p1, .int p2]) _ _ (by decide) (Nat.le_of_ble_eq_true rfl) ?_
  intro p e s m args below meth c hx hb hr hml hts htl hown hlocks hK H locs hH hG hS hB hZ ls hl
  have hown : s.vm.findClass RX12 = some m.cls := hown
  have hl : lv_has ls 6 [(0, .ref a0), (1, .int p1), (2, .int p2)] := hl
  obtain ⟨hg_0, hg_1, ⟨hj0_0, hj0_1, hj0_2, hj0_3, hj0_4, hj0_5, hj0_6, hj0_7, hj0_8, hj0_9⟩⟩ := hB
  have hr_p1 := tk_rng p1
  have hr_p2 := tk_rng p2
  refine lv_iload_n hx hb dX12_terms_0 rfl (lv_at hl 1 rfl) ?_
  refine lv_iconst (v := 1) hx hb dX12_terms_1 (by decide) ?_
  have hj4 : ∀ (v3 : Int32), 0 ≤ v3.toInt → v3.toInt ≤ 1 → ∀ ls : Array Slot, lv_has ls 6 [(0, .ref a0), (1, .int p1), (2, .int p2)] → W p l e ({ frames := 5, cells := 0, slots := 0, locals := 280 }) s m args below meth c H locs 0 0 (MQ below (ti D cy ld t [] (fun r H => tk_f D H a0 12 13 (.int g0) ∧ tk_f D H a0 12 15 (.int g15) ∧ jC D ld (ld 20) 0 n0 n1 n2 n3 fh fs fk q1 q2 q3 H) (tk_w t [(13, 0, 0), (20, 0, 0), (10, 0, 0), (3, 0, 0), (2, 0, 0)])) args s 0 0 (tk_w t [(13, 0, 0), (20, 0, 0), (10, 0, 0), (3, 0, 0), (2, 0, 0)])) (F0 m 10 ls [.int v3]) := by
    intro v3 hq0_j4 hq1_j4 ls hl
    refine lv_istore_n (lv' := [(3, .int v3), (0, .ref a0), (1, .int p1), (2, .int p2)]) hx hb dX12_terms_10 rfl hl (by decide) rfl (fun ls hl => ?_)
    refine lv_iload_n hx hb dX12_terms_11 rfl (lv_at hl 2 rfl) ?_
    refine lv_iconst (v := 3) hx hb dX12_terms_12 (by decide) ?_
    have hj8 : ∀ (v7 : Int32), 9 ≤ v7.toInt → v7.toInt ≤ 999 → ∀ ls : Array Slot, lv_has ls 6 [(3, .int v3), (0, .ref a0), (1, .int p1), (2, .int p2)] → W p l e ({ frames := 5, cells := 0, slots := 0, locals := 280 }) s m args below meth c H locs 0 0 (MQ below (ti D cy ld t [] (fun r H => tk_f D H a0 12 13 (.int g0) ∧ tk_f D H a0 12 15 (.int g15) ∧ jC D ld (ld 20) 0 n0 n1 n2 n3 fh fs fk q1 q2 q3 H) (tk_w t [(13, 0, 0), (20, 0, 0), (10, 0, 0), (3, 0, 0), (2, 0, 0)])) args s 0 0 (tk_w t [(13, 0, 0), (20, 0, 0), (10, 0, 0), (3, 0, 0), (2, 0, 0)])) (F0 m 24 ls [.int v7]) := by
      intro v7 hq0_j8 hq1_j8 ls hl
      refine lv_istore (lv' := [(4, .int v7), (3, .int v3), (0, .ref a0), (1, .int p1), (2, .int p2)]) hx hb dX12_terms_24 hl (by decide) rfl (fun ls hl => ?_)
      refine lv_iload_n hx hb dX12_terms_26 rfl (lv_at hl 3 rfl) ?_
      refine lv_iconst (v := 0) hx hb dX12_terms_27 (by decide) ?_
      refine lv_iconst (v := 3) hx hb dX12_terms_28 (by decide) ?_
      have hk_0 : (0 : Int32).toInt = 0 := by decide
      have hk_3 : (3 : Int32).toInt = 3 := by decide
      refine tk_Si (As := [.int p1, .int 0, .int 3]) (rest := []) ⟨hx, hb, hml, hown, hts⟩ hK hG hZ hS (k_X12_within_x l D cy ld t _ p1 0 3) trivial ⟨callB_of 3 hts (wl_in mw_262) rfl rfl rfl (htl _ mw_2) (htl _ mw_277) hd_yX12_within ⟨(Nat.le_of_ble_eq_true rfl), (Nat.le_of_ble_eq_true rfl)⟩, htl _ mw_261⟩ (tk_w.pick [] rfl) rfl hl.1 rfl (Nat.le_of_ble_eq_true rfl) dX12_terms_29 ⟨(Nat.le_of_ble_eq_true rfl), (Nat.le_of_ble_eq_true rfl)⟩ (fun v9 H locs hpo hG hS hq9 => ?_)
      have hg_0 := hg_0.call hq9 tk_w.nil
      have hg_1 := hg_1.call hq9 tk_w.nil
      have hj0_0 := hj0_0.call hq9 tk_w.nil
      have hj0_1 := hj0_1.call hq9 tk_w.nil
      have hj0_2 := hj0_2.call hq9 tk_w.nil
      have hj0_3 := hj0_3.call hq9 tk_w.nil
      have hj0_4 := hj0_4.call hq9 tk_w.nil
      have hj0_5 := hj0_5.call hq9 tk_w.nil
      have hj0_6 := hj0_6.call hq9 tk_w.nil
      have hj0_7 := hj0_7.call hq9 tk_w.nil
      have hj0_8 := hj0_8.call hq9 tk_w.nil
      have hj0_9 := hj0_9.call hq9 tk_w.nil
      obtain ⟨hpo11, hpo12, hpo13, hpo14, hpo15, hpo16⟩ := hpo
      refine lv_if_eq (tgt := 45) hx hb dX12_terms_32 (by decide) (fun c9 => ?_) (fun c9 => ?_)
      · have hc17 : v9.toInt = 0 := (fi_eq rfl (show (0 : Int32).toInt = 0 by decide)).mp c9
        refine lv_aload_n hx hb dX12_terms_45 rfl (lv_at hl 2 rfl) ?_
        refine lv_iconst (v := (-1)) hx hb dX12_terms_46 (by decide) ?_
        have hk_m1 : ((-1) : Int32).toInt = (-1) := by decide
        refine tk_Vi (As := [.int (-1)]) (rest := []) (ci := 12) ⟨hx, hb, hml, hown, hts⟩ hK hG hZ hS (k_X12_refuse_x l D cy ld t a0 (-1) g0 g15 ht_a0 (by omega) (by omega) (by omega) (by omega)) ⟨hg_0, hg_1⟩ ⟨callB_of 1 hts (wl_in mw_275) rfl rfl rfl (htl _ mw_2) (htl _ mw_272) hd_yX12_refuse ⟨(Nat.le_of_ble_eq_true rfl), (Nat.le_of_ble_eq_true rfl)⟩, htl _ mw_273, htl _ mw_274⟩ ht_a0 (by decide) tk_no rfl (tk_w.pick [0, 1] rfl) rfl hl.1 rfl (Nat.le_of_ble_eq_true rfl) dX12_terms_47 ⟨(Nat.le_of_ble_eq_true rfl), (Nat.le_of_ble_eq_true rfl)⟩ (fun v18 H locs hpo hG hS hq9 => ?_)
        have hj0_0 := hj0_0.call hq9 (tk_w.no ht_ld20 (by decide))
        have hj0_1 := hj0_1.call hq9 (tk_w.no ht_ld20 (by decide))
        have hj0_2 := hj0_2.call hq9 (tk_w.no ht_ld20 (by decide))
        have hj0_3 := hj0_3.call hq9 (tk_w.no ht_ld20 (by decide))
        have hj0_4 := hj0_4.call hq9 (tk_w.no ht_ld70 (by decide))
        have hj0_5 := hj0_5.call hq9 (tk_w.no ht_ld80 (by decide))
        have hj0_6 := hj0_6.call hq9 (tk_w.no ht_ld90 (by decide))
        have hj0_7 := hj0_7.call hq9 (tk_w.no ht_ld100 (by decide))
        have hj0_8 := hj0_8.call hq9 (tk_w.no ht_ld110 (by decide))
        have hj0_9 := hj0_9.call hq9 (tk_w.no ht_ld120 (by decide))
        obtain ⟨hpo20, hf21, hf22⟩ := hpo
        exact tk_iret (v := v18) hx hb hr rfl hlocks (show tk_f D H a0 12 13 (.int g0) ∧ tk_f D H a0 12 15 (.int g15) ∧ jC D ld (ld 20) 0 n0 n1 n2 n3 fh fs fk q1 q2 q3 H from ⟨hf21, hf22, ⟨hj0_0, hj0_1, hj0_2, hj0_3, hj0_4, hj0_5, hj0_6, hj0_7, hj0_8, hj0_9⟩⟩) hG hS dX12_terms_50
      · have hc17 : ¬ (v9.toInt = 0) := fun h9 => c9 ((fi_eq rfl (show (0 : Int32).toInt = 0 by decide)).mpr h9)
        refine lv_iload_n hx hb dX12_terms_35 rfl (lv_at hl 4 rfl) ?_
        refine lv_iload_n hx hb dX12_terms_36 rfl (lv_at hl 1 rfl) ?_
        refine lv_iload hx hb dX12_terms_37 (lv_at hl 0 rfl) ?_
        refine tk_Si (As := [.int p2, .int v3, .int v7]) (rest := []) ⟨hx, hb, hml, hown, hts⟩ hK hG hZ hS (k_X12_within_x l D cy ld t _ p2 v3 v7) trivial ⟨callB_of 3 hts (wl_in mw_262) rfl rfl rfl (htl _ mw_2) (htl _ mw_277) hd_yX12_within ⟨(Nat.le_of_ble_eq_true rfl), (Nat.le_of_ble_eq_true rfl)⟩, htl _ mw_261⟩ (tk_w.pick [] rfl) rfl hl.1 rfl (Nat.le_of_ble_eq_true rfl) dX12_terms_39 ⟨(Nat.le_of_ble_eq_true rfl), (Nat.le_of_ble_eq_true rfl)⟩ (fun v23 H locs hpo hG hS hq9 => ?_)
        have hg_0 := hg_0.call hq9 tk_w.nil
        have hg_1 := hg_1.call hq9 tk_w.nil
        have hj0_0 := hj0_0.call hq9 tk_w.nil
        have hj0_1 := hj0_1.call hq9 tk_w.nil
        have hj0_2 := hj0_2.call hq9 tk_w.nil
        have hj0_3 := hj0_3.call hq9 tk_w.nil
        have hj0_4 := hj0_4.call hq9 tk_w.nil
        have hj0_5 := hj0_5.call hq9 tk_w.nil
        have hj0_6 := hj0_6.call hq9 tk_w.nil
        have hj0_7 := hj0_7.call hq9 tk_w.nil
        have hj0_8 := hj0_8.call hq9 tk_w.nil
        have hj0_9 := hj0_9.call hq9 tk_w.nil
        obtain ⟨hpo25, hpo26, hpo27, hpo28, hpo29, hpo30⟩ := hpo
        refine lv_if_ne (tgt := 51) hx hb dX12_terms_42 (by decide) (fun c9 => ?_) (fun c9 => ?_)
        · have hc31 : ¬ (v23.toInt = 0) := fun h9 => c9 ((fi_eq rfl (show (0 : Int32).toInt = 0 by decide)).mpr h9)
          refine lv_aload_n hx hb dX12_terms_51 rfl (lv_at hl 2 rfl) ?_
          refine tk_get (ci := 12) (C := RX12) (T := TX12) (N := 17) (sp := (8, 20, 3, 0)) hx hb htl inX12 hown hK hG ht_a0 (by decide) tk_no rfl 0 (by decide) (htl _ mw_15) (fun _ h9 => h9) rfl dX12_terms_52 (fun v9 hf32 hV9 => ?_)
          obtain ⟨rfl, ht_ld20⟩ := hV9
          have ht_ld20 : t (ld 20) = (3, 0, 0) := ht_ld20
          refine fx_top (v := .ref (ld 20)) rfl ?_
          refine lv_iload_n hx hb dX12_terms_55 rfl (lv_at hl 3 rfl) ?_
          refine tk_Vi (As := [.int p1]) (rest := []) (ci := 2) ⟨hx, hb, hml, hown, hts⟩ hK hG hZ hS (k_X2_termOf l D cy ld t (ld 20) p1 ht_ld20) trivial ⟨callB_of 1 hts (wl_in mw_407) rfl rfl rfl (htl _ mw_14) (htl _ mw_404) hd_yX2_termOf ⟨(Nat.le_of_ble_eq_true rfl), (Nat.le_of_ble_eq_true rfl)⟩, htl _ mw_405, htl _ mw_406⟩ ht_ld20 (by decide) tk_no rfl (tk_w.pick [] rfl) rfl hl.1 rfl (Nat.le_of_ble_eq_true rfl) dX12_terms_56 ⟨(Nat.le_of_ble_eq_true rfl), (Nat.le_of_ble_eq_true rfl)⟩ (fun v33 H locs hpo hG hS hq9 => ?_)
          have hg_0 := hg_0.call hq9 tk_w.nil
          have hg_1 := hg_1.call hq9 tk_w.nil
          have hj0_0 := hj0_0.call hq9 tk_w.nil
          have hj0_1 := hj0_1.call hq9 tk_w.nil
          have hj0_2 := hj0_2.call hq9 tk_w.nil
          have hj0_3 := hj0_3.call hq9 tk_w.nil
          have hj0_4 := hj0_4.call hq9 tk_w.nil
          have hj0_5 := hj0_5.call hq9 tk_w.nil
          have hj0_6 := hj0_6.call hq9 tk_w.nil
          have hj0_7 := hj0_7.call hq9 tk_w.nil
          have hj0_8 := hj0_8.call hq9 tk_w.nil
          have hj0_9 := hj0_9.call hq9 tk_w.nil
          refine lv_istore (lv' := [(5, .int v33), (4, .int v7), (3, .int v3), (0, .ref a0), (1, .int p1), (2, .int p2)]) hx hb dX12_terms_59 hl (by decide) rfl (fun ls hl => ?_)
          refine lv_aload_n hx hb dX12_terms_61 rfl (lv_at hl 3 rfl) ?_
          refine tk_get (ci := 12) (C := RX12) (T := TX12) (N := 17) (sp := (8, 20, 3, 0)) hx hb htl inX12 hown hK hG ht_a0 (by decide) tk_no rfl 0 (by decide) (htl _ mw_15) (fun _ h9 => h9) rfl dX12_terms_62 (fun v9 hf35 hV9 => ?_)
          obtain ⟨rfl, ht_ld20⟩ := hV9
          have ht_ld20 : t (ld 20) = (3, 0, 0) := ht_ld20
          refine fx_top (v := .ref (ld 20)) rfl ?_
          refine lv_iload_n hx hb dX12_terms_65 rfl (lv_at hl 4 rfl) ?_
          refine lv_iload_n hx hb dX12_terms_66 rfl (lv_at hl 5 rfl) ?_
          refine tk_Vv (As := [.int p1, .int p2]) (rest := []) (ci := 2) ⟨hx, hb, hml, hown, hts⟩ hK hG hZ hS (k_X2_setTerm_x l D cy ld t (ld 20) p1 p2 n0 n1 n2 n3 fh fs fk q1 q2 q3 ht_ld20 ht_ld70 ht_ld80 ht_ld90 ht_ld100 ht_ld110 ht_ld120 (by omega) (by omega) (by omega) (by omega) (by omega) (by omega) (by omega) (by omega)) ⟨hj0_0, hj0_1, hj0_2, hj0_3, hj0_4, hj0_5, hj0_6, hj0_7, hj0_8, hj0_9⟩ ⟨callB_of 2 hts (wl_in mw_413) rfl rfl rfl (htl _ mw_14) (htl _ mw_410) hd_yX2_setTerm ⟨(Nat.le_of_ble_eq_true rfl), (Nat.le_of_ble_eq_true rfl)⟩, htl _ mw_411, htl _ mw_412⟩ ht_ld20 (by decide) tk_no rfl (tk_w.pick [2, 3] rfl) rfl hl.1 rfl (Nat.le_of_ble_eq_true rfl) dX12_terms_67 ⟨(Nat.le_of_ble_eq_true rfl), (Nat.le_of_ble_eq_true rfl)⟩ (fun H locs hpo hG hS hq9 => ?_)
          have hg_0 := hg_0.call hq9 (tk_w.no ht_a0 (by decide))
          have hg_1 := hg_1.call hq9 (tk_w.no ht_a0 (by decide))
          have hj0_4 := hj0_4.call hq9 (tk_w.no ht_ld70 (by decide))
          have hj0_5 := hj0_5.call hq9 (tk_w.no ht_ld80 (by decide))
          have hj0_6 := hj0_6.call hq9 (tk_w.no ht_ld90 (by decide))
          have hj0_7 := hj0_7.call hq9 (tk_w.no ht_ld100 (by decide))
          have hj0_8 := hj0_8.call hq9 (tk_w.no ht_ld110 (by decide))
          have hj0_9 := hj0_9.call hq9 (tk_w.no ht_ld120 (by decide))
          have ⟨hj37, hj38, hj39, hj40, hj41, hj42, hj43, hj44, hj45, hj46⟩ := hpo
          refine lv_aload_n hx hb dX12_terms_70 rfl (lv_at hl 3 rfl) ?_
          refine tk_get (ci := 12) (C := RX12) (T := TX12) (N := 17) (sp := (6, 2, 0, 0)) hx hb htl inX12 hown hK hG ht_a0 (by decide) tk_no rfl 4 (by decide) (htl _ mw_26) (fun _ h9 => h9) rfl dX12_terms_71 (fun v9 hf47 hV9 => ?_)
          obtain ⟨b48, rfl, ht_b48⟩ := hV9
          have ht_b48 : t b48 = (2, 0, 0) := ht_b48
          refine tk_Vv (As := []) (rest := []) (ci := 1) ⟨hx, hb, hml, hown, hts⟩ hK hG hZ hS (k_X1_clearUndone l D cy ld t b48 ht_b48) trivial ⟨callB_of 0 hts (wl_in mw_266) rfl rfl rfl (htl _ mw_25) (htl _ mw_263) hd_yX1_clearUndone ⟨(Nat.le_of_ble_eq_true rfl), (Nat.le_of_ble_eq_true rfl)⟩, htl _ mw_264, htl _ mw_265⟩ ht_b48 (by decide) tk_no rfl (tk_w.pick [4] rfl) rfl hl.1 rfl (Nat.le_of_ble_eq_true rfl) dX12_terms_74 ⟨(Nat.le_of_ble_eq_true rfl), (Nat.le_of_ble_eq_true rfl)⟩ (fun H locs hpo hG hS hq9 => ?_)
          have hg_0 := hg_0.call hq9 (tk_w.no ht_a0 (by decide))
          have hg_1 := hg_1.call hq9 (tk_w.no ht_a0 (by decide))
          have hj41 := hj41.call hq9 (tk_w.no ht_ld70 (by decide))
          have hj42 := hj42.call hq9 (tk_w.no ht_ld80 (by decide))
          have hj43 := hj43.call hq9 (tk_w.no ht_ld90 (by decide))
          have hj44 := hj44.call hq9 (tk_w.no ht_ld100 (by decide))
          have hj45 := hj45.call hq9 (tk_w.no ht_ld110 (by decide))
          have hj46 := hj46.call hq9 (tk_w.no ht_ld120 (by decide))
          have hj37 := hj37.call hq9 (tk_w.no ht_ld20 (by decide))
          have hj38 := hj38.call hq9 (tk_w.no ht_ld20 (by decide))
          have hj39 := hj39.call hq9 (tk_w.no ht_ld20 (by decide))
          have hj40 := hj40.call hq9 (tk_w.no ht_ld20 (by decide))
          refine lv_aload_n hx hb dX12_terms_77 rfl (lv_at hl 3 rfl) ?_
          refine lv_iload hx hb dX12_terms_78 (lv_at hl 0 rfl) ?_
          refine tk_Vi (As := [.int v33]) (rest := []) (ci := 12) ⟨hx, hb, hml, hown, hts⟩ hK hG hZ hS (k_X12_accept_x l D cy ld t a0 v33 g0 g15 ht_a0 (by omega) (by omega) (by omega) (by omega)) ⟨hg_0, hg_1⟩ ⟨callB_of 1 hts (wl_in mw_281) rfl rfl rfl (htl _ mw_2) (htl _ mw_278) hd_yX12_accept ⟨(Nat.le_of_ble_eq_true rfl), (Nat.le_of_ble_eq_true rfl)⟩, htl _ mw_279, htl _ mw_280⟩ ht_a0 (by decide) tk_no rfl (tk_w.pick [0] rfl) rfl hl.1 rfl (Nat.le_of_ble_eq_true rfl) dX12_terms_80 ⟨(Nat.le_of_ble_eq_true rfl), (Nat.le_of_ble_eq_true rfl)⟩ (fun v50 H locs hpo hG hS hq9 => ?_)
          have hj41 := hj41.call hq9 (tk_w.no ht_ld70 (by decide))
          have hj42 := hj42.call hq9 (tk_w.no ht_ld80 (by decide))
          have hj43 := hj43.call hq9 (tk_w.no ht_ld90 (by decide))
          have hj44 := hj44.call hq9 (tk_w.no ht_ld100 (by decide))
          have hj45 := hj45.call hq9 (tk_w.no ht_ld110 (by decide))
          have hj46 := hj46.call hq9 (tk_w.no ht_ld120 (by decide))
          have hj37 := hj37.call hq9 (tk_w.no ht_ld20 (by decide))
          have hj38 := hj38.call hq9 (tk_w.no ht_ld20 (by decide))
          have hj39 := hj39.call hq9 (tk_w.no ht_ld20 (by decide))
          have hj40 := hj40.call hq9 (tk_w.no ht_ld20 (by decide))
          obtain ⟨hpo52, hf53, hf54⟩ := hpo
          exact tk_iret (v := v50) hx hb hr rfl hlocks (show tk_f D H a0 12 13 (.int g0) ∧ tk_f D H a0 12 15 (.int g15) ∧ jC D ld (ld 20) 0 n0 n1 n2 n3 fh fs fk q1 q2 q3 H from ⟨hf53, hf54, ⟨hj37, hj38, hj39, hj40, hj41, hj42, hj43, hj44, hj45, hj46⟩⟩) hG hS dX12_terms_83
        · have hc31 : v23.toInt = 0 := (fi_eq rfl (show (0 : Int32).toInt = 0 by decide)).mp c9
          refine lv_aload_n hx hb dX12_terms_45 rfl (lv_at hl 2 rfl) ?_
          refine lv_iconst (v := (-1)) hx hb dX12_terms_46 (by decide) ?_
          have hk_m1 : ((-1) : Int32).toInt = (-1) := by decide
          refine tk_Vi (As := [.int (-1)]) (rest := []) (ci := 12) ⟨hx, hb, hml, hown, hts⟩ hK hG hZ hS (k_X12_refuse_x l D cy ld t a0 (-1) g0 g15 ht_a0 (by omega) (by omega) (by omega) (by omega)) ⟨hg_0, hg_1⟩ ⟨callB_of 1 hts (wl_in mw_275) rfl rfl rfl (htl _ mw_2) (htl _ mw_272) hd_yX12_refuse ⟨(Nat.le_of_ble_eq_true rfl), (Nat.le_of_ble_eq_true rfl)⟩, htl _ mw_273, htl _ mw_274⟩ ht_a0 (by decide) tk_no rfl (tk_w.pick [0, 1] rfl) rfl hl.1 rfl (Nat.le_of_ble_eq_true rfl) dX12_terms_47 ⟨(Nat.le_of_ble_eq_true rfl), (Nat.le_of_ble_eq_true rfl)⟩ (fun v55 H locs hpo hG hS hq9 => ?_)
          have hj0_0 := hj0_0.call hq9 (tk_w.no ht_ld20 (by decide))
          have hj0_1 := hj0_1.call hq9 (tk_w.no ht_ld20 (by decide))
          have hj0_2 := hj0_2.call hq9 (tk_w.no ht_ld20 (by decide))
          have hj0_3 := hj0_3.call hq9 (tk_w.no ht_ld20 (by decide))
          have hj0_4 := hj0_4.call hq9 (tk_w.no ht_ld70 (by decide))
          have hj0_5 := hj0_5.call hq9 (tk_w.no ht_ld80 (by decide))
          have hj0_6 := hj0_6.call hq9 (tk_w.no ht_ld90 (by decide))
          have hj0_7 := hj0_7.call hq9 (tk_w.no ht_ld100 (by decide))
          have hj0_8 := hj0_8.call hq9 (tk_w.no ht_ld110 (by decide))
          have hj0_9 := hj0_9.call hq9 (tk_w.no ht_ld120 (by decide))
          obtain ⟨hpo57, hf58, hf59⟩ := hpo
          exact tk_iret (v := v55) hx hb hr rfl hlocks (show tk_f D H a0 12 13 (.int g0) ∧ tk_f D H a0 12 15 (.int g15) ∧ jC D ld (ld 20) 0 n0 n1 n2 n3 fh fs fk q1 q2 q3 H from ⟨hf58, hf59, ⟨hj0_0, hj0_1, hj0_2, hj0_3, hj0_4, hj0_5, hj0_6, hj0_7, hj0_8, hj0_9⟩⟩) hG hS dX12_terms_50
    refine lv_icmp_ne (tgt := 21) hx hb dX12_terms_13 (by decide) (fun c9 => ?_) (fun c9 => ?_)
    · have hc5 : ¬ (p1.toInt = 3) := fun h9 => c9 ((fi_eq rfl (show (3 : Int32).toInt = 3 by decide)).mpr h9)
      refine lv_sipush (v := 999) hx hb dX12_terms_21 (by decide) ?_
      have hk_999 : (999 : Int32).toInt = 999 := by decide
      exact hj8 999 (by omega) (by omega) _ (lv_sub hl [0, 1, 2, 3] rfl)
    · have hc5 : p1.toInt = 3 := (fi_eq rfl (show (3 : Int32).toInt = 3 by decide)).mp c9
      refine lv_bipush (v := 9) hx hb dX12_terms_16 (by decide) ?_
      refine lv_goto (tgt := 24) hx hb dX12_terms_18 (by decide) ?_
      have hk_9 : (9 : Int32).toInt = 9 := by decide
      exact hj8 9 (by omega) (by omega) _ (lv_sub hl [0, 1, 2, 3] rfl)
  refine lv_icmp_ne (tgt := 9) hx hb dX12_terms_2 (by decide) (fun c9 => ?_) (fun c9 => ?_)
  · have hc1 : ¬ (p1.toInt = 1) := fun h9 => c9 ((fi_eq rfl (show (1 : Int32).toInt = 1 by decide)).mpr h9)
    refine lv_iconst (v := 0) hx hb dX12_terms_9 (by decide) ?_
    have hk_0 : (0 : Int32).toInt = 0 := by decide
    exact hj4 0 (by omega) (by omega) _ (lv_sub hl [0, 1, 2] rfl)
  · have hc1 : p1.toInt = 1 := (fi_eq rfl (show (1 : Int32).toInt = 1 by decide)).mp c9
    refine lv_iconst (v := 1) hx hb dX12_terms_5 (by decide) ?_
    refine lv_goto (tgt := 10) hx hb dX12_terms_6 (by decide) ?_
    have hk_1 : (1 : Int32).toInt = 1 := by decide
    exact hj4 1 (by omega) (by omega) _ (lv_sub hl [0, 1, 2] rfl)
set_option maxHeartbeats 4000000 in
set_option maxRecDepth 100000 in
theorem k_X12_pour_x (l : Launch) (D : va_G) (cy : Nat → ClassId) (ld : Nat → Nat) (t : tk_T) (a0 : Nat) (p1 : Int32) (g0 : Int32) (g15 : Int32) (ft : Nat → Int32) (ht_a0 : t a0 = (13, 0, 0)) (ht_ld26 : t (ld 26) = (20, 400, 9)) (hp_0 : 0 ≤ g0.toInt) (hp_1 : g0.toInt ≤ 396) (hp_2 : (-2147483648) ≤ g15.toInt) (hp_3 : g15.toInt ≤ 2147483647) : Met l yX12_pour (wl yX12_pour cX12_pour 3 none) ({ frames := 3, cells := 0, slots := 0, locals := 140 }) (tp D cy ld t [] [.ref a0, .int p1] (fun H => tk_f D H a0 12 13 (.int g0) ∧ tk_f D H a0 12 15 (.int g15) ∧ tk_c H (ld 26) 400 ft)) (tv D cy ld t [] (fun H => tk_f D H a0 12 15 (.int g15) ∧ (∃ n9 : Int32, tk_f D H a0 12 13 (.int n9) ∧ (-1) * g0.toInt + n9.toInt + (-4) = 0) ∧ tk_c H (ld 26) 400 (jpf ft g0.toInt.toNat p1)) (tk_w t [(20, 9, 9), (13, 0, 0)])) 0 0 (tk_w t [(20, 9, 9), (13, 0, 0)]) := by
  refine tk_met (y := yX12_pour) (cc := cX12_pour) (maxL := 3) (ret := none) (av := [.ref a0, .int p1]) _ _ (by decide) (Nat.le_of_ble_eq_true rfl) ?_
  intro p e s m args below meth c hx hb hr hml hts htl hown hlocks hK H locs hH hG hS hB hZ ls hl
  have hown : s.vm.findClass RX12 = some m.cls := hown
  have hl : lv_has ls 3 [(0, .ref a0), (1, .int p1)] := hl
  obtain ⟨hg_0, hg_1, hj0_0⟩ := hB
  have hr_p1 := tk_rng p1
  refine lv_bipush (v := 24) hx hb dX12_pour_0 (by decide) ?_
  refine lv_istore_n (lv' := [(2, .int 24), (0, .ref a0), (1, .int p1)]) hx hb dX12_pour_2 rfl hl (by decide) rfl (fun ls hl => ?_)
  refine lv_iload_n hx hb dX12_pour_3 rfl (lv_at hl 0 rfl) ?_
  refine lv_if_lt (tgt := 51) hx hb dX12_pour_4 (by decide) (fun c9 => absurd c9 (by decide)) (fun _ => ?_)
  refine lv_aload_n hx hb dX12_pour_7 rfl (lv_at hl 1 rfl) ?_
  refine tk_getk (ci := 12) (C := RX12) (T := TX12) (N := 17) (sp := (0, 0, 400, 0)) hx hb htl inX12 hown hK hG ht_a0 (by decide) tk_no rfl 13 (by decide) (htl _ mw_422) (fun _ h9 => h9) rfl hg_0 dX12_pour_8 ?_
  refine lv_aload_n hx hb dX12_pour_11 rfl (lv_at hl 1 rfl) ?_
  refine tk_get (ci := 12) (C := RX12) (T := TX12) (N := 17) (sp := (10, 26, 20, 6409)) hx hb htl inX12 hown hK hG ht_a0 (by decide) tk_no rfl 11 (by decide) (htl _ mw_33) (fun _ h9 => h9) rfl dX12_pour_12 (fun v9 hf1 hV9 => ?_)
  obtain ⟨rfl, ht_ld26⟩ := hV9
  have ht_ld26 : t (ld 26) = (20, 400, 9) := ht_ld26
  refine fx_top (v := .ref (ld 26)) rfl ?_
  refine tk_alen hx hb hK hG 0 rfl ht_ld26 (by decide) (fun _ h => by obtain ⟨f, h, _⟩ := h; exact ⟨_, h⟩) tk_no (by decide) dX12_pour_15 (fun z hz => ?_)
  obtain rfl : z = 400 := (fi_eq hz (by decide)).mpr rfl
  refine lv_icmp_ge (tgt := 45) hx hb dX12_pour_16 (by decide) (fun c9 => absurd (show 400 ≤ g0.toInt from (fi_le (show (400 : Int32).toInt = 400 by decide) rfl).mp c9) (by omega)) (fun _ => ?_)
  refine lv_aload_n hx hb dX12_pour_19 rfl (lv_at hl 1 rfl) ?_
  refine tk_get (ci := 12) (C := RX12) (T := TX12) (N := 17) (sp := (10, 26, 20, 6409)) hx hb htl inX12 hown hK hG ht_a0 (by decide) tk_no rfl 11 (by decide) (htl _ mw_33) (fun _ h9 => h9) rfl dX12_pour_20 (fun v9 hf2 hV9 => ?_)
  obtain ⟨rfl, ht_ld26⟩ := hV9
  have ht_ld26 : t (ld 26) = (20, 400, 9) := ht_ld26
  refine fx_top (v := .ref (ld 26)) rfl ?_
  refine lv_aload_n hx hb dX12_pour_23 rfl (lv_at hl 1 rfl) ?_
  refine tk_getk (ci := 12) (C := RX12) (T := TX12) (N := 17) (sp := (0, 0, 400, 0)) hx hb htl inX12 hown hK hG ht_a0 (by decide) tk_no rfl 13 (by decide) (htl _ mw_422) (fun _ h9 => h9) rfl hg_0 dX12_pour_24 ?_
  refine lv_iload_n hx hb dX12_pour_27 rfl (lv_at hl 2 rfl) ?_
  refine lv_iload_n hx hb dX12_pour_28 rfl (lv_at hl 0 rfl) ?_
  obtain ⟨v3, hm_v3⟩ : ∃ z : Int32, (p1.toUInt32 >>> ((24 : Int32).toUInt32 &&& Int32.toUInt32 31)).toInt32 = z := ⟨_, rfl⟩
  refine lv_iushr (v := v3) hx hb dX12_pour_29 hm_v3 ?_
  have hq_v3 := tk_rng v3
  refine lv_sipush (v := 255) hx hb dX12_pour_30 (by decide) ?_
  obtain ⟨v4, hm_v4⟩ : ∃ z : Int32, v3 &&& (255 : Int32) = z := ⟨_, rfl⟩
  refine lv_iand hx hb dX12_pour_33 ?_
  refine fx_ti hm_v4 ?_
  have h_v4 : 0 ≤ v4.toInt ∧ v4.toInt ≤ 255 := hm_v4 ▸ tk_and v3 8 (by decide) (by decide)
  refine tk_iastC hx hb hK hG hS ht_ld26 (by decide) (fun _ => Iff.rfl) tk_no rfl (by omega) (by omega) trivial (tk_w.of ht_ld26 (by decide) (List.mem_of_getElem? (i := 0) rfl) (Nat.le_refl _) (Nat.le_refl _)) dX12_pour_34 hj0_0 (fun H locs hG hS hq9 hj6 => ?_)
  have hj6 : tk_c H (ld 26) 400 (upd ft g0.toNatClampNeg v4) := hj6
  have hg_0 := hg_0.kept (hq9 _ (tk_ne ht_a0 ht_ld26 (Or.inl (by decide))))
  have hg_1 := hg_1.kept (hq9 _ (tk_ne ht_a0 ht_ld26 (Or.inl (by decide))))
  refine lv_aload_n hx hb dX12_pour_35 rfl (lv_at hl 1 rfl) ?_
  refine lv_dup hx hb dX12_pour_36 rfl ?_
  refine tk_getk (ci := 12) (C := RX12) (T := TX12) (N := 17) (sp := (0, 0, 400, 0)) hx hb htl inX12 hown hK hG ht_a0 (by decide) tk_no rfl 13 (by decide) (htl _ mw_422) (fun _ h9 => h9) rfl hg_0 dX12_pour_37 ?_
  refine lv_iconst (v := 1) hx hb dX12_pour_40 (by decide) ?_
  refine lv_iadd hx hb dX12_pour_41 ?_
  refine tk_add rfl (show (1 : Int32).toInt = 1 by decide) (by omega) (by omega) (fun v7 h_v7 => ?_)
  refine tk_put (ci := 12) (v := .int v7) (ty := .int) (C := RX12) (T := TX12) (N := 17) (sp := (0, 0, 400, 0)) hx hb htl inX12 tyX12 tyX12_ok nmX12 hown hK hG hS ht_a0 (by decide) tk_no rfl 13 (by decide) (htl _ mw_422) (fun _ h9 => h9) rfl (tyX12_ok 13 (by decide)) rfl rfl rfl (tk_V0 (by omega) (by omega)) (fun _ h => h) (tk_w.of ht_a0 (by decide) (List.mem_of_getElem? (i := 1) rfl) (Nat.le_refl _) (Nat.le_refl _)) dX12_pour_42 (fun H locs hG hS hf8 hq9 hj9 => ?_)
  have hg_1 := hj9 15 _ (by decide) (by decide) hg_1
  have hj6 := hj6.kept (hq9 _ (tk_ne ht_ld26 ht_a0 (Or.inl (by decide))))
  refine lv_iinc (v := 16) (lv' := [(2, .int 16), (0, .ref a0), (1, .int p1)]) hx hb dX12_pour_45 hl (k := 0) rfl (by decide) (by decide) rfl (fun ls hl => ?_)
  refine lv_goto (tgt := 3) hx hb dX12_pour_48 (by decide) ?_
  refine lv_iload_n hx hb dX12_pour_3 rfl (lv_at hl 0 rfl) ?_
  refine lv_if_lt (tgt := 51) hx hb dX12_pour_4 (by decide) (fun c9 => absurd c9 (by decide)) (fun _ => ?_)
  refine lv_aload_n hx hb dX12_pour_7 rfl (lv_at hl 1 rfl) ?_
  refine tk_getk (ci := 12) (C := RX12) (T := TX12) (N := 17) (sp := (0, 0, 400, 0)) hx hb htl inX12 hown hK hG ht_a0 (by decide) tk_no rfl 13 (by decide) (htl _ mw_422) (fun _ h9 => h9) rfl hf8 dX12_pour_8 ?_
  refine lv_aload_n hx hb dX12_pour_11 rfl (lv_at hl 1 rfl) ?_
  refine tk_get (ci := 12) (C := RX12) (T := TX12) (N := 17) (sp := (10, 26, 20, 6409)) hx hb htl inX12 hown hK hG ht_a0 (by decide) tk_no rfl 11 (by decide) (htl _ mw_33) (fun _ h9 => h9) rfl dX12_pour_12 (fun v9 hf10 hV9 => ?_)
  obtain ⟨rfl, ht_ld26⟩ := hV9
  have ht_ld26 : t (ld 26) = (20, 400, 9) := ht_ld26
  refine fx_top (v := .ref (ld 26)) rfl ?_
  refine tk_alen hx hb hK hG 0 rfl ht_ld26 (by decide) (fun _ h => by obtain ⟨f, h, _⟩ := h; exact ⟨_, h⟩) tk_no (by decide) dX12_pour_15 (fun z hz => ?_)
  obtain rfl : z = 400 := (fi_eq hz (by decide)).mpr rfl
  refine lv_icmp_ge (tgt := 45) hx hb dX12_pour_16 (by decide) (fun c9 => absurd (show 400 ≤ v7.toInt from (fi_le (show (400 : Int32).toInt = 400 by decide) rfl).mp c9) (by omega)) (fun _ => ?_)
  refine lv_aload_n hx hb dX12_pour_19 rfl (lv_at hl 1 rfl) ?_
  refine tk_get (ci := 12) (C := RX12) (T := TX12) (N := 17) (sp := (10, 26, 20, 6409)) hx hb htl inX12 hown hK hG ht_a0 (by decide) tk_no rfl 11 (by decide) (htl _ mw_33) (fun _ h9 => h9) rfl dX12_pour_20 (fun v9 hf11 hV9 => ?_)
  obtain ⟨rfl, ht_ld26⟩ := hV9
  have ht_ld26 : t (ld 26) = (20, 400, 9) := ht_ld26
  refine fx_top (v := .ref (ld 26)) rfl ?_
  refine lv_aload_n hx hb dX12_pour_23 rfl (lv_at hl 1 rfl) ?_
  refine tk_getk (ci := 12) (C := RX12) (T := TX12) (N := 17) (sp := (0, 0, 400, 0)) hx hb htl inX12 hown hK hG ht_a0 (by decide) tk_no rfl 13 (by decide) (htl _ mw_422) (fun _ h9 => h9) rfl hf8 dX12_pour_24 ?_
  refine lv_iload_n hx hb dX12_pour_27 rfl (lv_at hl 2 rfl) ?_
  refine lv_iload_n hx hb dX12_pour_28 rfl (lv_at hl 0 rfl) ?_
  obtain ⟨v12, hm_v12⟩ : ∃ z : Int32, (p1.toUInt32 >>> ((16 : Int32).toUInt32 &&& Int32.toUInt32 31)).toInt32 = z := ⟨_, rfl⟩
  refine lv_iushr (v := v12) hx hb dX12_pour_29 hm_v12 ?_
  have hq_v12 := tk_rng v12
  refine lv_sipush (v := 255) hx hb dX12_pour_30 (by decide) ?_
  obtain ⟨v13, hm_v13⟩ : ∃ z : Int32, v12 &&& (255 : Int32) = z := ⟨_, rfl⟩
  refine lv_iand hx hb dX12_pour_33 ?_
  refine fx_ti hm_v13 ?_
  have h_v13 : 0 ≤ v13.toInt ∧ v13.toInt ≤ 255 := hm_v13 ▸ tk_and v12 8 (by decide) (by decide)
  refine tk_iastC hx hb hK hG hS ht_ld26 (by decide) (fun _ => Iff.rfl) tk_no rfl (by omega) (by omega) trivial (tk_w.of ht_ld26 (by decide) (List.mem_of_getElem? (i := 0) rfl) (Nat.le_refl _) (Nat.le_refl _)) dX12_pour_34 hj6 (fun H locs hG hS hq9 hj15 => ?_)
  have hj15 : tk_c H (ld 26) 400 (upd (upd ft g0.toNatClampNeg v4) v7.toNatClampNeg v13) := hj15
  have hg_1 := hg_1.kept (hq9 _ (tk_ne ht_a0 ht_ld26 (Or.inl (by decide))))
  have hf8 := hf8.kept (hq9 _ (tk_ne ht_a0 ht_ld26 (Or.inl (by decide))))
  refine lv_aload_n hx hb dX12_pour_35 rfl (lv_at hl 1 rfl) ?_
  refine lv_dup hx hb dX12_pour_36 rfl ?_
  refine tk_getk (ci := 12) (C := RX12) (T := TX12) (N := 17) (sp := (0, 0, 400, 0)) hx hb htl inX12 hown hK hG ht_a0 (by decide) tk_no rfl 13 (by decide) (htl _ mw_422) (fun _ h9 => h9) rfl hf8 dX12_pour_37 ?_
  refine lv_iconst (v := 1) hx hb dX12_pour_40 (by decide) ?_
  refine lv_iadd hx hb dX12_pour_41 ?_
  refine tk_add rfl (show (1 : Int32).toInt = 1 by decide) (by omega) (by omega) (fun v16 h_v16 => ?_)
  refine tk_put (ci := 12) (v := .int v16) (ty := .int) (C := RX12) (T := TX12) (N := 17) (sp := (0, 0, 400, 0)) hx hb htl inX12 tyX12 tyX12_ok nmX12 hown hK hG hS ht_a0 (by decide) tk_no rfl 13 (by decide) (htl _ mw_422) (fun _ h9 => h9) rfl (tyX12_ok 13 (by decide)) rfl rfl rfl (tk_V0 (by omega) (by omega)) (fun _ h => h) (tk_w.of ht_a0 (by decide) (List.mem_of_getElem? (i := 1) rfl) (Nat.le_refl _) (Nat.le_refl _)) dX12_pour_42 (fun H locs hG hS hf17 hq9 hj9 => ?_)
  have hg_1 := hj9 15 _ (by decide) (by decide) hg_1
  have hj15 := hj15.kept (hq9 _ (tk_ne ht_ld26 ht_a0 (Or.inl (by decide))))
  refine lv_iinc (v := 8) (lv' := [(2, .int 8), (0, .ref a0), (1, .int p1)]) hx hb dX12_pour_45 hl (k := 0) rfl (by decide) (by decide) rfl (fun ls hl => ?_)
  refine lv_goto (tgt := 3) hx hb dX12_pour_48 (by decide) ?_
  refine lv_iload_n hx hb dX12_pour_3 rfl (lv_at hl 0 rfl) ?_
  refine lv_if_lt (tgt := 51) hx hb dX12_pour_4 (by decide) (fun c9 => absurd c9 (by decide)) (fun _ => ?_)
  refine lv_aload_n hx hb dX12_pour_7 rfl (lv_at hl 1 rfl) ?_
  refine tk_getk (ci := 12) (C := RX12) (T := TX12) (N := 17) (sp := (0, 0, 400, 0)) hx hb htl inX12 hown hK hG ht_a0 (by decide) tk_no rfl 13 (by decide) (htl _ mw_422) (fun _ h9 => h9) rfl hf17 dX12_pour_8 ?_
  refine lv_aload_n hx hb dX12_pour_11 rfl (lv_at hl 1 rfl) ?_
  refine tk_get (ci := 12) (C := RX12) (T := TX12) (N := 17) (sp := (10, 26, 20, 6409)) hx hb htl inX12 hown hK hG ht_a0 (by decide) tk_no rfl 11 (by decide) (htl _ mw_33) (fun _ h9 => h9) rfl dX12_pour_12 (fun v9 hf19 hV9 => ?_)
  obtain ⟨rfl, ht_ld26⟩ := hV9
  have ht_ld26 : t (ld 26) = (20, 400, 9) := ht_ld26
  refine fx_top (v := .ref (ld 26)) rfl ?_
  refine tk_alen hx hb hK hG 0 rfl ht_ld26 (by decide) (fun _ h => by obtain ⟨f, h, _⟩ := h; exact ⟨_, h⟩) tk_no (by decide) dX12_pour_15 (fun z hz => ?_)
  obtain rfl : z = 400 := (fi_eq hz (by decide)).mpr rfl
  refine lv_icmp_ge (tgt := 45) hx hb dX12_pour_16 (by decide) (fun c9 => absurd (show 400 ≤ v16.toInt from (fi_le (show (400 : Int32).toInt = 400 by decide) rfl).mp c9) (by omega)) (fun _ => ?_)
  refine lv_aload_n hx hb dX12_pour_19 rfl (lv_at hl 1 rfl) ?_
  refine tk_get (ci := 12) (C := RX12) (T := TX12) (N := 17) (sp := (10, 26, 20, 6409)) hx hb htl inX12 hown hK hG ht_a0 (by decide) tk_no rfl 11 (by decide) (htl _ mw_33) (fun _ h9 => h9) rfl dX12_pour_20 (fun v9 hf20 hV9 => ?_)
  obtain ⟨rfl, ht_ld26⟩ := hV9
  have ht_ld26 : t (ld 26) = (20, 400, 9) := ht_ld26
  refine fx_top (v := .ref (ld 26)) rfl ?_
  refine lv_aload_n hx hb dX12_pour_23 rfl (lv_at hl 1 rfl) ?_
  refine tk_getk (ci := 12) (C := RX12) (T := TX12) (N := 17) (sp := (0, 0, 400, 0)) hx hb htl inX12 hown hK hG ht_a0 (by decide) tk_no rfl 13 (by decide) (htl _ mw_422) (fun _ h9 => h9) rfl hf17 dX12_pour_24 ?_
  refine lv_iload_n hx hb dX12_pour_27 rfl (lv_at hl 2 rfl) ?_
  refine lv_iload_n hx hb dX12_pour_28 rfl (lv_at hl 0 rfl) ?_
  obtain ⟨v21, hm_v21⟩ : ∃ z : Int32, (p1.toUInt32 >>> ((8 : Int32).toUInt32 &&& Int32.toUInt32 31)).toInt32 = z := ⟨_, rfl⟩
  refine lv_iushr (v := v21) hx hb dX12_pour_29 hm_v21 ?_
  have hq_v21 := tk_rng v21
  refine lv_sipush (v := 255) hx hb dX12_pour_30 (by decide) ?_
  obtain ⟨v22, hm_v22⟩ : ∃ z : Int32, v21 &&& (255 : Int32) = z := ⟨_, rfl⟩
  refine lv_iand hx hb dX12_pour_33 ?_
  refine fx_ti hm_v22 ?_
  have h_v22 : 0 ≤ v22.toInt ∧ v22.toInt ≤ 255 := hm_v22 ▸ tk_and v21 8 (by decide) (by decide)
  refine tk_iastC hx hb hK hG hS ht_ld26 (by decide) (fun _ => Iff.rfl) tk_no rfl (by omega) (by omega) trivial (tk_w.of ht_ld26 (by decide) (List.mem_of_getElem? (i := 0) rfl) (Nat.le_refl _) (Nat.le_refl _)) dX12_pour_34 hj15 (fun H locs hG hS hq9 hj24 => ?_)
  have hj24 : tk_c H (ld 26) 400 (upd (upd (upd ft g0.toNatClampNeg v4) v7.toNatClampNeg v13) v16.toNatClampNeg v22) := hj24
  have hg_1 := hg_1.kept (hq9 _ (tk_ne ht_a0 ht_ld26 (Or.inl (by decide))))
  have hf17 := hf17.kept (hq9 _ (tk_ne ht_a0 ht_ld26 (Or.inl (by decide))))
  refine lv_aload_n hx hb dX12_pour_35 rfl (lv_at hl 1 rfl) ?_
  refine lv_dup hx hb dX12_pour_36 rfl ?_
  refine tk_getk (ci := 12) (C := RX12) (T := TX12) (N := 17) (sp := (0, 0, 400, 0)) hx hb htl inX12 hown hK hG ht_a0 (by decide) tk_no rfl 13 (by decide) (htl _ mw_422) (fun _ h9 => h9) rfl hf17 dX12_pour_37 ?_
  refine lv_iconst (v := 1) hx hb dX12_pour_40 (by decide) ?_
  refine lv_iadd hx hb dX12_pour_41 ?_
  refine tk_add rfl (show (1 : Int32).toInt = 1 by decide) (by omega) (by omega) (fun v25 h_v25 => ?_)
  refine tk_put (ci := 12) (v := .int v25) (ty := .int) (C := RX12) (T := TX12) (N := 17) (sp := (0, 0, 400, 0)) hx hb htl inX12 tyX12 tyX12_ok nmX12 hown hK hG hS ht_a0 (by decide) tk_no rfl 13 (by decide) (htl _ mw_422) (fun _ h9 => h9) rfl (tyX12_ok 13 (by decide)) rfl rfl rfl (tk_V0 (by omega) (by omega)) (fun _ h => h) (tk_w.of ht_a0 (by decide) (List.mem_of_getElem? (i := 1) rfl) (Nat.le_refl _) (Nat.le_refl _)) dX12_pour_42 (fun H locs hG hS hf26 hq9 hj9 => ?_)
  have hg_1 := hj9 15 _ (by decide) (by decide) hg_1
  have hj24 := hj24.kept (hq9 _ (tk_ne ht_ld26 ht_a0 (Or.inl (by decide))))
  refine lv_iinc (v := 0) (lv' := [(2, .int 0), (0, .ref a0), (1, .int p1)]) hx hb dX12_pour_45 hl (k := 0) rfl (by decide) (by decide) rfl (fun ls hl => ?_)
  refine lv_goto (tgt := 3) hx hb dX12_pour_48 (by decide) ?_
  refine lv_iload_n hx hb dX12_pour_3 rfl (lv_at hl 0 rfl) ?_
  refine lv_if_lt (tgt := 51) hx hb dX12_pour_4 (by decide) (fun c9 => absurd c9 (by decide)) (fun _ => ?_)
  refine lv_aload_n hx hb dX12_pour_7 rfl (lv_at hl 1 rfl) ?_
  refine tk_getk (ci := 12) (C := RX12) (T := TX12) (N := 17) (sp := (0, 0, 400, 0)) hx hb htl inX12 hown hK hG ht_a0 (by decide) tk_no rfl 13 (by decide) (htl _ mw_422) (fun _ h9 => h9) rfl hf26 dX12_pour_8 ?_
  refine lv_aload_n hx hb dX12_pour_11 rfl (lv_at hl 1 rfl) ?_
  refine tk_get (ci := 12) (C := RX12) (T := TX12) (N := 17) (sp := (10, 26, 20, 6409)) hx hb htl inX12 hown hK hG ht_a0 (by decide) tk_no rfl 11 (by decide) (htl _ mw_33) (fun _ h9 => h9) rfl dX12_pour_12 (fun v9 hf28 hV9 => ?_)
  obtain ⟨rfl, ht_ld26⟩ := hV9
  have ht_ld26 : t (ld 26) = (20, 400, 9) := ht_ld26
  refine fx_top (v := .ref (ld 26)) rfl ?_
  refine tk_alen hx hb hK hG 0 rfl ht_ld26 (by decide) (fun _ h => by obtain ⟨f, h, _⟩ := h; exact ⟨_, h⟩) tk_no (by decide) dX12_pour_15 (fun z hz => ?_)
  obtain rfl : z = 400 := (fi_eq hz (by decide)).mpr rfl
  refine lv_icmp_ge (tgt := 45) hx hb dX12_pour_16 (by decide) (fun c9 => absurd (show 400 ≤ v25.toInt from (fi_le (show (400 : Int32).toInt = 400 by decide) rfl).mp c9) (by omega)) (fun _ => ?_)
  refine lv_aload_n hx hb dX12_pour_19 rfl (lv_at hl 1 rfl) ?_
  refine tk_get (ci := 12) (C := RX12) (T := TX12) (N := 17) (sp := (10, 26, 20, 6409)) hx hb htl inX12 hown hK hG ht_a0 (by decide) tk_no rfl 11 (by decide) (htl _ mw_33) (fun _ h9 => h9) rfl dX12_pour_20 (fun v9 hf29 hV9 => ?_)
  obtain ⟨rfl, ht_ld26⟩ := hV9
  have ht_ld26 : t (ld 26) = (20, 400, 9) := ht_ld26
  refine fx_top (v := .ref (ld 26)) rfl ?_
  refine lv_aload_n hx hb dX12_pour_23 rfl (lv_at hl 1 rfl) ?_
  refine tk_getk (ci := 12) (C := RX12) (T := TX12) (N := 17) (sp := (0, 0, 400, 0)) hx hb htl inX12 hown hK hG ht_a0 (by decide) tk_no rfl 13 (by decide) (htl _ mw_422) (fun _ h9 => h9) rfl hf26 dX12_pour_24 ?_
  refine lv_iload_n hx hb dX12_pour_27 rfl (lv_at hl 2 rfl) ?_
  refine lv_iload_n hx hb dX12_pour_28 rfl (lv_at hl 0 rfl) ?_
  obtain ⟨v30, hm_v30⟩ : ∃ z : Int32, (p1.toUInt32 >>> ((0 : Int32).toUInt32 &&& Int32.toUInt32 31)).toInt32 = z := ⟨_, rfl⟩
  refine lv_iushr (v := v30) hx hb dX12_pour_29 hm_v30 ?_
  have hq_v30 := tk_rng v30
  refine lv_sipush (v := 255) hx hb dX12_pour_30 (by decide) ?_
  obtain ⟨v31, hm_v31⟩ : ∃ z : Int32, v30 &&& (255 : Int32) = z := ⟨_, rfl⟩
  refine lv_iand hx hb dX12_pour_33 ?_
  refine fx_ti hm_v31 ?_
  have h_v31 : 0 ≤ v31.toInt ∧ v31.toInt ≤ 255 := hm_v31 ▸ tk_and v30 8 (by decide) (by decide)
  refine tk_iastC hx hb hK hG hS ht_ld26 (by decide) (fun _ => Iff.rfl) tk_no rfl (by omega) (by omega) trivial (tk_w.of ht_ld26 (by decide) (List.mem_of_getElem? (i := 0) rfl) (Nat.le_refl _) (Nat.le_refl _)) dX12_pour_34 hj24 (fun H locs hG hS hq9 hj33 => ?_)
  have hj33 : tk_c H (ld 26) 400 (upd (upd (upd (upd ft g0.toNatClampNeg v4) v7.toNatClampNeg v13) v16.toNatClampNeg v22) v25.toNatClampNeg v31) := hj33
  have hg_1 := hg_1.kept (hq9 _ (tk_ne ht_a0 ht_ld26 (Or.inl (by decide))))
  have hf26 := hf26.kept (hq9 _ (tk_ne ht_a0 ht_ld26 (Or.inl (by decide))))
  refine lv_aload_n hx hb dX12_pour_35 rfl (lv_at hl 1 rfl) ?_
  refine lv_dup hx hb dX12_pour_36 rfl ?_
  refine tk_getk (ci := 12) (C := RX12) (T := TX12) (N := 17) (sp := (0, 0, 400, 0)) hx hb htl inX12 hown hK hG ht_a0 (by decide) tk_no rfl 13 (by decide) (htl _ mw_422) (fun _ h9 => h9) rfl hf26 dX12_pour_37 ?_
  refine lv_iconst (v := 1) hx hb dX12_pour_40 (by decide) ?_
  refine lv_iadd hx hb dX12_pour_41 ?_
  refine tk_add rfl (show (1 : Int32).toInt = 1 by decide) (by omega) (by omega) (fun v34 h_v34 => ?_)
  refine tk_put (ci := 12) (v := .int v34) (ty := .int) (C := RX12) (T := TX12) (N := 17) (sp := (0, 0, 400, 0)) hx hb htl inX12 tyX12 tyX12_ok nmX12 hown hK hG hS ht_a0 (by decide) tk_no rfl 13 (by decide) (htl _ mw_422) (fun _ h9 => h9) rfl (tyX12_ok 13 (by decide)) rfl rfl rfl (tk_V0 (by omega) (by omega)) (fun _ h => h) (tk_w.of ht_a0 (by decide) (List.mem_of_getElem? (i := 1) rfl) (Nat.le_refl _) (Nat.le_refl _)) dX12_pour_42 (fun H locs hG hS hf35 hq9 hj9 => ?_)
  have hg_1 := hj9 15 _ (by decide) (by decide) hg_1
  have hj33 := hj33.kept (hq9 _ (tk_ne ht_ld26 ht_a0 (Or.inl (by decide))))
  refine lv_iinc (v := (-8)) (lv' := [(2, .int (-8)), (0, .ref a0), (1, .int p1)]) hx hb dX12_pour_45 hl (k := 0) rfl (by decide) (by decide) rfl (fun ls hl => ?_)
  refine lv_goto (tgt := 3) hx hb dX12_pour_48 (by decide) ?_
  refine lv_iload_n hx hb dX12_pour_3 rfl (lv_at hl 0 rfl) ?_
  refine lv_if_lt (tgt := 51) hx hb dX12_pour_4 (by decide) (fun _ => ?_) (fun c9 => absurd (by decide) c9)
  exact tk_vret hx hb hr hlocks (show tk_f D H a0 12 15 (.int g15) ∧ (∃ n9 : Int32, tk_f D H a0 12 13 (.int n9) ∧ (-1) * g0.toInt + n9.toInt + (-4) = 0) ∧ tk_c H (ld 26) 400 (jpf ft g0.toInt.toNat p1) from ⟨hg_1, ⟨v34, hf35, (by omega)⟩, (hj33.cg (by subst hm_v31; subst hm_v30; subst hm_v22; subst hm_v21; subst hm_v13; subst hm_v12; subst hm_v4; subst hm_v3; unfold jpf jb; rw [show v7.toNatClampNeg = g0.toInt.toNat + 1 from (by have h9 : v7.toNatClampNeg = v7.toInt.toNat := rfl; omega), show v16.toNatClampNeg = g0.toInt.toNat + 2 from (by have h9 : v16.toNatClampNeg = v16.toInt.toNat := rfl; omega), show v25.toNatClampNeg = g0.toInt.toNat + 3 from (by have h9 : v25.toNatClampNeg = v25.toInt.toNat := rfl; omega)]; rfl))⟩) hG hS dX12_pour_51
set_option maxHeartbeats 4000000 in
set_option maxRecDepth 100000 in
theorem k_X12_feed_x (l : Launch) (D : va_G) (cy : Nat → ClassId) (ld : Nat → Nat) (t : tk_T) (a0 : Nat) (p1 : Int32) (p2 : Int32) (p3 : Int32) (p4 : Int32) (p5 : Int32) (g0 : Int32) (g15 : Int32) (ft : Nat → Int32) (ht_a0 : t a0 = (13, 0, 0)) (ht_ld26 : t (ld 26) = (20, 400, 9)) (hp_0 : 0 ≤ g0.toInt) (hp_1 : g0.toInt ≤ 400) (hp_2 : (-2147483648) ≤ g15.toInt) (hp_3 : g15.toInt ≤ 2147483647) : Met l yX12_feed (wl yX12_feed cX12_feed 6 (some .int)) ({ frames := 4, cells := 0, slots := 0, locals := 210 }) (tp D cy ld t [] [.ref a0, .int p1, .int p2, .int p3, .int p4, .int p5] (fun H => tk_f D H a0 12 13 (.int g0) ∧ tk_f D H a0 12 15 (.int g15) ∧ tk_c H (ld 26) 400 ft)) (ti D cy ld t [] (fun r H => (381 ≤ g0.toInt → r.toInt + 1 = 0) ∧ (g0.toInt ≤ 380 → (-1) * g0.toInt + r.toInt + (-20) = 0) ∧ tk_f D H a0 12 15 (.int g15) ∧ (∃ n9 : Int32, tk_f D H a0 12 13 (.int n9) ∧ (381 ≤ g0.toInt → (-1) * g0.toInt + n9.toInt = 0) ∧ (g0.toInt ≤ 380 → (-1) * g0.toInt + n9.toInt + (-20) = 0)) ∧ tk_c H (ld 26) 400 (cif r (jpf (jpf (jpf (jpf (jpf ft g0.toInt.toNat p1) (g0.toInt.toNat + 4) p2) (g0.toInt.toNat + 8) p3) (g0.toInt.toNat + 12) p4) (g0.toInt.toNat + 16) p5) ft)) (tk_w t [(20, 9, 9), (13, 0, 0)])) 0 0 (tk_w t [(20, 9, 9), (13, 0, 0)]) := by
  refine tk_met (y := yX12_feed) (cc := cX12_feed) (maxL := 6) (ret := (some .int)) (av := [.ref a0, .int p1, .int p2, .int p3, .int p4, .int p5]) _ _ (by decide) (Nat.le_of_ble_eq_true rfl) ?_
  intro p e s m args below meth c hx hb hr hml hts htl hown hlocks hK H locs hH hG hS hB hZ ls hl
  have hown : s.vm.findClass RX12 = some m.cls := hown
  have hl : lv_has ls 6 [(0, .ref a0), (1, .int p1), (2, .int p2), (3, .int p3), (4, .int p4), (5, .int p5)] := hl
  obtain ⟨hg_0, hg_1, hj0_0⟩ := hB
  have hr_p1 := tk_rng p1
  have hr_p2 := tk_rng p2
  have hr_p3 := tk_rng p3
  have hr_p4 := tk_rng p4
  have hr_p5 := tk_rng p5
  refine lv_aload_n hx hb dX12_feed_0 rfl (lv_at hl 0 rfl) ?_
  refine tk_getk (ci := 12) (C := RX12) (T := TX12) (N := 17) (sp := (0, 0, 400, 0)) hx hb htl inX12 hown hK hG ht_a0 (by decide) tk_no rfl 13 (by decide) (htl _ mw_422) (fun _ h9 => h9) rfl hg_0 dX12_feed_1 ?_
  refine lv_bipush (v := 20) hx hb dX12_feed_4 (by decide) ?_
  refine lv_iadd hx hb dX12_feed_6 ?_
  refine tk_add rfl (show (20 : Int32).toInt = 20 by decide) (by omega) (by omega) (fun v1 h_v1 => ?_)
  refine lv_sipush (v := 400) hx hb dX12_feed_7 (by decide) ?_
  refine lv_icmp_le (tgt := 15) hx hb dX12_feed_10 (by decide) (fun c9 => ?_) (fun c9 => ?_)
  · have hc2 : v1.toInt ≤ 400 := (fi_le rfl (show (400 : Int32).toInt = 400 by decide)).mp c9
    refine lv_aload_n hx hb dX12_feed_15 rfl (lv_at hl 0 rfl) ?_
    refine lv_iload_n hx hb dX12_feed_16 rfl (lv_at hl 1 rfl) ?_
    refine tk_Vv (As := [.int p1]) (rest := []) (ci := 12) ⟨hx, hb, hml, hown, hts⟩ hK hG hZ hS (k_X12_pour_x l D cy ld t a0 p1 g0 g15 ft ht_a0 ht_ld26 (by omega) (by omega) (by omega) (by omega)) ⟨hg_0, hg_1, hj0_0⟩ ⟨callB_of 1 hts (wl_in mw_426) rfl rfl rfl (htl _ mw_2) (htl _ mw_423) hd_yX12_pour ⟨(Nat.le_of_ble_eq_true rfl), (Nat.le_of_ble_eq_true rfl)⟩, htl _ mw_424, htl _ mw_425⟩ ht_a0 (by decide) tk_no rfl (tk_w.pick [0, 1] rfl) rfl hl.1 rfl (Nat.le_of_ble_eq_true rfl) dX12_feed_17 ⟨(Nat.le_of_ble_eq_true rfl), (Nat.le_of_ble_eq_true rfl)⟩ (fun H locs hpo hG hS hq9 => ?_)
    obtain ⟨hf4, hpx5, hj6⟩ := hpo
    obtain ⟨v7, hf8, hpo9⟩ := hpx5
    have hq_v7 := tk_rng v7
    refine lv_aload_n hx hb dX12_feed_20 rfl (lv_at hl 0 rfl) ?_
    refine lv_iload_n hx hb dX12_feed_21 rfl (lv_at hl 2 rfl) ?_
    refine tk_Vv (As := [.int p2]) (rest := []) (ci := 12) ⟨hx, hb, hml, hown, hts⟩ hK hG hZ hS (k_X12_pour_x l D cy ld t a0 p2 v7 g15 (jpf ft g0.toInt.toNat p1) ht_a0 ht_ld26 (by omega) (by omega) (by omega) (by omega)) ⟨hf8, hf4, hj6⟩ ⟨callB_of 1 hts (wl_in mw_426) rfl rfl rfl (htl _ mw_2) (htl _ mw_423) hd_yX12_pour ⟨(Nat.le_of_ble_eq_true rfl), (Nat.le_of_ble_eq_true rfl)⟩, htl _ mw_424, htl _ mw_425⟩ ht_a0 (by decide) tk_no rfl (tk_w.pick [0, 1] rfl) rfl hl.1 rfl (Nat.le_of_ble_eq_true rfl) dX12_feed_22 ⟨(Nat.le_of_ble_eq_true rfl), (Nat.le_of_ble_eq_true rfl)⟩ (fun H locs hpo hG hS hq9 => ?_)
    obtain ⟨hf11, hpx12, hj13⟩ := hpo
    obtain ⟨v14, hf15, hpo16⟩ := hpx12
    have hq_v14 := tk_rng v14
    refine lv_aload_n hx hb dX12_feed_25 rfl (lv_at hl 0 rfl) ?_
    refine lv_iload_n hx hb dX12_feed_26 rfl (lv_at hl 3 rfl) ?_
    refine tk_Vv (As := [.int p3]) (rest := []) (ci := 12) ⟨hx, hb, hml, hown, hts⟩ hK hG hZ hS (k_X12_pour_x l D cy ld t a0 p3 v14 g15 (jpf (jpf ft g0.toInt.toNat p1) v7.toInt.toNat p2) ht_a0 ht_ld26 (by omega) (by omega) (by omega) (by omega)) ⟨hf15, hf11, hj13⟩ ⟨callB_of 1 hts (wl_in mw_426) rfl rfl rfl (htl _ mw_2) (htl _ mw_423) hd_yX12_pour ⟨(Nat.le_of_ble_eq_true rfl), (Nat.le_of_ble_eq_true rfl)⟩, htl _ mw_424, htl _ mw_425⟩ ht_a0 (by decide) tk_no rfl (tk_w.pick [0, 1] rfl) rfl hl.1 rfl (Nat.le_of_ble_eq_true rfl) dX12_feed_27 ⟨(Nat.le_of_ble_eq_true rfl), (Nat.le_of_ble_eq_true rfl)⟩ (fun H locs hpo hG hS hq9 => ?_)
    obtain ⟨hf18, hpx19, hj20⟩ := hpo
    obtain ⟨v21, hf22, hpo23⟩ := hpx19
    have hq_v21 := tk_rng v21
    refine lv_aload_n hx hb dX12_feed_30 rfl (lv_at hl 0 rfl) ?_
    refine lv_iload hx hb dX12_feed_31 (lv_at hl 4 rfl) ?_
    refine tk_Vv (As := [.int p4]) (rest := []) (ci := 12) ⟨hx, hb, hml, hown, hts⟩ hK hG hZ hS (k_X12_pour_x l D cy ld t a0 p4 v21 g15 (jpf (jpf (jpf ft g0.toInt.toNat p1) v7.toInt.toNat p2) v14.toInt.toNat p3) ht_a0 ht_ld26 (by omega) (by omega) (by omega) (by omega)) ⟨hf22, hf18, hj20⟩ ⟨callB_of 1 hts (wl_in mw_426) rfl rfl rfl (htl _ mw_2) (htl _ mw_423) hd_yX12_pour ⟨(Nat.le_of_ble_eq_true rfl), (Nat.le_of_ble_eq_true rfl)⟩, htl _ mw_424, htl _ mw_425⟩ ht_a0 (by decide) tk_no rfl (tk_w.pick [0, 1] rfl) rfl hl.1 rfl (Nat.le_of_ble_eq_true rfl) dX12_feed_33 ⟨(Nat.le_of_ble_eq_true rfl), (Nat.le_of_ble_eq_true rfl)⟩ (fun H locs hpo hG hS hq9 => ?_)
    obtain ⟨hf25, hpx26, hj27⟩ := hpo
    obtain ⟨v28, hf29, hpo30⟩ := hpx26
    have hq_v28 := tk_rng v28
    refine lv_aload_n hx hb dX12_feed_36 rfl (lv_at hl 0 rfl) ?_
    refine lv_iload hx hb dX12_feed_37 (lv_at hl 5 rfl) ?_
    refine tk_Vv (As := [.int p5]) (rest := []) (ci := 12) ⟨hx, hb, hml, hown, hts⟩ hK hG hZ hS (k_X12_pour_x l D cy ld t a0 p5 v28 g15 (jpf (jpf (jpf (jpf ft g0.toInt.toNat p1) v7.toInt.toNat p2) v14.toInt.toNat p3) v21.toInt.toNat p4) ht_a0 ht_ld26 (by omega) (by omega) (by omega) (by omega)) ⟨hf29, hf25, hj27⟩ ⟨callB_of 1 hts (wl_in mw_426) rfl rfl rfl (htl _ mw_2) (htl _ mw_423) hd_yX12_pour ⟨(Nat.le_of_ble_eq_true rfl), (Nat.le_of_ble_eq_true rfl)⟩, htl _ mw_424, htl _ mw_425⟩ ht_a0 (by decide) tk_no rfl (tk_w.pick [0, 1] rfl) rfl hl.1 rfl (Nat.le_of_ble_eq_true rfl) dX12_feed_39 ⟨(Nat.le_of_ble_eq_true rfl), (Nat.le_of_ble_eq_true rfl)⟩ (fun H locs hpo hG hS hq9 => ?_)
    obtain ⟨hf32, hpx33, hj34⟩ := hpo
    obtain ⟨v35, hf36, hpo37⟩ := hpx33
    have hq_v35 := tk_rng v35
    refine lv_aload_n hx hb dX12_feed_42 rfl (lv_at hl 0 rfl) ?_
    refine tk_getk (ci := 12) (C := RX12) (T := TX12) (N := 17) (sp := (0, 0, 400, 0)) hx hb htl inX12 hown hK hG ht_a0 (by decide) tk_no rfl 13 (by decide) (htl _ mw_422) (fun _ h9 => h9) rfl hf36 dX12_feed_43 ?_
    exact tk_iret (v := v35) hx hb hr rfl hlocks (show (381 ≤ g0.toInt → v35.toInt + 1 = 0) ∧ (g0.toInt ≤ 380 → (-1) * g0.toInt + v35.toInt + (-20) = 0) ∧ tk_f D H a0 12 15 (.int g15) ∧ (∃ n9 : Int32, tk_f D H a0 12 13 (.int n9) ∧ (381 ≤ g0.toInt → (-1) * g0.toInt + n9.toInt = 0) ∧ (g0.toInt ≤ 380 → (-1) * g0.toInt + n9.toInt + (-20) = 0)) ∧ tk_c H (ld 26) 400 (cif v35 (jpf (jpf (jpf (jpf (jpf ft g0.toInt.toNat p1) (g0.toInt.toNat + 4) p2) (g0.toInt.toNat + 8) p3) (g0.toInt.toNat + 12) p4) (g0.toInt.toNat + 16) p5) ft) from ⟨(fun _ => by omega), (fun _ => by omega), hf32, ⟨v35, hf36, (fun _ => by omega), (fun _ => by omega)⟩, (hj34.cg ((cif_t (by omega)).trans (by rw [show v7.toInt.toNat = g0.toInt.toNat + 4 by omega, show v14.toInt.toNat = g0.toInt.toNat + 8 by omega, show v21.toInt.toNat = g0.toInt.toNat + 12 by omega, show v28.toInt.toNat = g0.toInt.toNat + 16 by omega])).symm)⟩) hG hS dX12_feed_46
  · have hc2 : ¬ (v1.toInt ≤ 400) := fun h9 => c9 ((fi_le rfl (show (400 : Int32).toInt = 400 by decide)).mpr h9)
    refine lv_iconst (v := (-1)) hx hb dX12_feed_13 (by decide) ?_
    have hk_m1 : ((-1) : Int32).toInt = (-1) := by decide
    exact tk_iret (v := (-1)) hx hb hr rfl hlocks (show (381 ≤ g0.toInt → ((-1) : Int32).toInt + 1 = 0) ∧ (g0.toInt ≤ 380 → (-1) * g0.toInt + ((-1) : Int32).toInt + (-20) = 0) ∧ tk_f D H a0 12 15 (.int g15) ∧ (∃ n9 : Int32, tk_f D H a0 12 13 (.int n9) ∧ (381 ≤ g0.toInt → (-1) * g0.toInt + n9.toInt = 0) ∧ (g0.toInt ≤ 380 → (-1) * g0.toInt + n9.toInt + (-20) = 0)) ∧ tk_c H (ld 26) 400 (cif ((-1) : Int32) (jpf (jpf (jpf (jpf (jpf ft g0.toInt.toNat p1) (g0.toInt.toNat + 4) p2) (g0.toInt.toNat + 8) p3) (g0.toInt.toNat + 12) p4) (g0.toInt.toNat + 16) p5) ft) from ⟨(fun _ => by omega), (fun _ => by omega), hg_1, ⟨g0, hg_0, (fun _ => by omega), (fun _ => by omega)⟩, (hj0_0.cg (cif_f (by omega)).symm)⟩) hG hS dX12_feed_14
