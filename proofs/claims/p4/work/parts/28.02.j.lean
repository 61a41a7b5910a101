set_option maxHeartbeats 4000000 in
set_option maxRecDepth 100000 in
theorem k_X12_accept_x (l : Launch) (D : va_G) (cy : Nat → ClassId) (ld : Nat → Nat) (t : tk_T) (a0 : Nat) (p1 : Int32) (g0 : Int32) (g15 : Int32) (ht_a0 : t a0 = (13, 0, 0)) (hp_0 : 0 ≤ g0.toInt) (hp_1 : g0.toInt ≤ 400) (hp_2 : (-2147483648) ≤ g15.toInt) (hp_3 : g15.toInt ≤ 2147483647) : Met l yX12_accept (wl yX12_accept cX12_accept 2 (some .int)) ({ frames := 3, cells := 0, slots := 0, locals := 140 }) (tp D cy ld t [] [.ref a0, .int p1] (fun H => tk_f D H a0 12 13 (.int g0) ∧ tk_f D H a0 12 15 (.int g15))) (ti D cy ld t [] (fun r H => (-1) * p1.toInt + r.toInt = 0 ∧ tk_f D H a0 12 13 (.int g0) ∧ tk_f D H a0 12 15 (.int g15)) (tk_w t [(13, 0, 0)])) 0 0 (tk_w t [(13, 0, 0)]) := by
  refine tk_met (y := yX12_accept) (cc := cX12_accept) (maxL := 2) (ret := (some .int)) (av := [.ref a0, .int p1]) _ _ (by decide) (Nat.le_of_ble_eq_true rfl) ?_
  intro p e s m args below meth c hx hb hr hml hts htl hown hlocks hK H locs hH hG hS hB hZ ls hl
  have hown : s.vm.findClass RX12 = some m.cls := hown
  have hl : lv_has ls 2 [(0, .ref a0), (1, .int p1)] := hl
  obtain ⟨hg_0, hg_1⟩ := hB
  have hr_p1 := tk_rng p1
  refine lv_aload_n hx hb dX12_accept_0 rfl (lv_at hl 0 rfl) ?_
  refine lv_iconst (v := 0) hx hb dX12_accept_1 (by decide) ?_
  refine tk_put (ci := 12) (v := .int 0) (ty := .int) (C := RX12) (T := TX12) (N := 17) (sp := (0, (-2147483648), 2147483647, 0)) hx hb htl inX12 tyX12 tyX12_ok nmX12 hown hK hG hS ht_a0 (by decide) tk_no rfl 16 (by decide) (htl _ mw_276) (fun _ h9 => h9) rfl (tyX12_ok 16 (by decide)) rfl rfl rfl (tk_V0 (tk_rng _).1 (tk_rng _).2) (fun _ h => h) (tk_w.of ht_a0 (by decide) (List.mem_of_getElem? (i := 0) rfl) (Nat.le_refl _) (Nat.le_refl _)) dX12_accept_2 (fun H locs hG hS hf1 hq9 hj9 => ?_)
  have hg_0 := hj9 13 _ (by decide) (by decide) hg_0
  have hg_1 := hj9 15 _ (by decide) (by decide) hg_1
  refine lv_iload_n hx hb dX12_accept_5 rfl (lv_at hl 1 rfl) ?_
  exact tk_iret (v := p1) hx hb hr rfl hlocks (show (-1) * p1.toInt + p1.toInt = 0 ∧ tk_f D H a0 12 13 (.int g0) ∧ tk_f D H a0 12 15 (.int g15) from ⟨(by omega), hg_0, hg_1⟩) hG hS dX12_accept_6
set_option maxHeartbeats 4000000 in
set_option maxRecDepth 100000 in
theorem k_X12_within_x (l : Launch) (D : va_G) (cy : Nat → ClassId) (ld : Nat → Nat) (t : tk_T) (X : List Nat) (p0 : Int32) (p1 : Int32) (p2 : Int32) : Met l yX12_within (wl yX12_within cX12_within 3 (some .boolean)) ({ frames := 3, cells := 0, slots := 0, locals := 140 }) (tp D cy ld t X [.int p0, .int p1, .int p2] (fun H => True)) (ti D cy ld t X (fun r H => (1 ≤ r.toInt → 0 ≤ p0.toInt + (-1) * p1.toInt ∧ 0 ≤ (-1) * p0.toInt + p2.toInt) ∧ (r.toInt ≤ 0 → 0 ≤ p0.toInt + (-1) * p1.toInt → 0 ≤ p0.toInt + (-1) * p2.toInt + (-1)) ∧ 0 ≤ r.toInt ∧ r.toInt ≤ 1 ∧ 0 ≤ r.toInt ∧ r.toInt ≤ 1) (tk_w t [])) 0 0 (tk_w t []) := by
  refine tk_met (y := yX12_within) (cc := cX12_within) (maxL := 3) (ret := (some .boolean)) (av := [.int p0, .int p1, .int p2]) _ _ (by decide) (Nat.le_of_ble_eq_true rfl) ?_
  intro p e s m args below meth c hx hb hr hml hts htl hown hlocks hK H locs hH hG hS hB hZ ls hl
  have hown : s.vm.findClass RX12 = some m.cls := hown
  have hl : lv_has ls 3 [(0, .int p0), (1, .int p1), (2, .int p2)] := hl
  have hr_p0 := tk_rng p0
  have hr_p1 := tk_rng p1
  have hr_p2 := tk_rng p2
  refine lv_iload_n hx hb dX12_within_0 rfl (lv_at hl 0 rfl) ?_
  refine lv_iload_n hx hb dX12_within_1 rfl (lv_at hl 1 rfl) ?_
  refine lv_icmp_lt (tgt := 14) hx hb dX12_within_2 (by decide) (fun c9 => ?_) (fun c9 => ?_)
  · have hc1 : p0.toInt < p1.toInt := (fi_lt rfl rfl).mp c9
    refine lv_iconst (v := 0) hx hb dX12_within_14 (by decide) ?_
    have hk_0 : (0 : Int32).toInt = 0 := by decide
    exact tk_iret (v := 0) hx hb hr rfl hlocks (show (1 ≤ (0 : Int32).toInt → 0 ≤ p0.toInt + (-1) * p1.toInt ∧ 0 ≤ (-1) * p0.toInt + p2.toInt) ∧ ((0 : Int32).toInt ≤ 0 → 0 ≤ p0.toInt + (-1) * p1.toInt → 0 ≤ p0.toInt + (-1) * p2.toInt + (-1)) ∧ 0 ≤ (0 : Int32).toInt ∧ (0 : Int32).toInt ≤ 1 ∧ 0 ≤ (0 : Int32).toInt ∧ (0 : Int32).toInt ≤ 1 from ⟨(fun _ => ⟨by omega, by omega⟩), (fun _ _ => by omega), (by omega), (by omega), (by omega), (by omega)⟩) hG hS dX12_within_15
  · have hc1 : ¬ (p0.toInt < p1.toInt) := fun h9 => c9 ((fi_lt rfl rfl).mpr h9)
    refine lv_iload_n hx hb dX12_within_5 rfl (lv_at hl 0 rfl) ?_
    refine lv_iload_n hx hb dX12_within_6 rfl (lv_at hl 2 rfl) ?_
    refine lv_icmp_gt (tgt := 14) hx hb dX12_within_7 (by decide) (fun c9 => ?_) (fun c9 => ?_)
    · have hc2 : p2.toInt < p0.toInt := (fi_lt rfl rfl).mp c9
      refine lv_iconst (v := 0) hx hb dX12_within_14 (by decide) ?_
      have hk_0 : (0 : Int32).toInt = 0 := by decide
      exact tk_iret (v := 0) hx hb hr rfl hlocks (show (1 ≤ (0 : Int32).toInt → 0 ≤ p0.toInt + (-1) * p1.toInt ∧ 0 ≤ (-1) * p0.toInt + p2.toInt) ∧ ((0 : Int32).toInt ≤ 0 → 0 ≤ p0.toInt + (-1) * p1.toInt → 0 ≤ p0.toInt + (-1) * p2.toInt + (-1)) ∧ 0 ≤ (0 : Int32).toInt ∧ (0 : Int32).toInt ≤ 1 ∧ 0 ≤ (0 : Int32).toInt ∧ (0 : Int32).toInt ≤ 1 from ⟨(fun _ => ⟨by omega, by omega⟩), (fun _ _ => by omega), (by omega), (by omega), (by omega), (by omega)⟩) hG hS dX12_within_15
    · have hc2 : ¬ (p2.toInt < p0.toInt) := fun h9 => c9 ((fi_lt rfl rfl).mpr h9)
      refine lv_iconst (v := 1) hx hb dX12_within_10 (by decide) ?_
      refine lv_goto (tgt := 15) hx hb dX12_within_11 (by decide) ?_
      have hk_1 : (1 : Int32).toInt = 1 := by decide
      exact tk_iret (v := 1) hx hb hr rfl hlocks (show (1 ≤ (1 : Int32).toInt → 0 ≤ p0.toInt + (-1) * p1.toInt ∧ 0 ≤ (-1) * p0.toInt + p2.toInt) ∧ ((1 : Int32).toInt ≤ 0 → 0 ≤ p0.toInt + (-1) * p1.toInt → 0 ≤ p0.toInt + (-1) * p2.toInt + (-1)) ∧ 0 ≤ (1 : Int32).toInt ∧ (1 : Int32).toInt ≤ 1 ∧ 0 ≤ (1 : Int32).toInt ∧ (1 : Int32).toInt ≤ 1 from ⟨(fun _ => ⟨by omega, by omega⟩), (fun _ _ => by omega), (by omega), (by omega), (by omega), (by omega)⟩) hG hS dX12_within_15
set_option maxHeartbeats 4000000 in
set_option maxRecDepth 100000 in
theorem k_X12_refuse_x (l : Launch) (D : va_G) (cy : Nat → ClassId) (ld : Nat → Nat) (t : tk_T) (a0 : Nat) (p1 : Int32) (g0 : Int32) (g15 : Int32) (ht_a0 : t a0 = (13, 0, 0)) (hp_0 : 0 ≤ g0.toInt) (hp_1 : g0.toInt ≤ 400) (hp_2 : (-2147483648) ≤ g15.toInt) (hp_3 : g15.toInt ≤ 2147483647) : Met l yX12_refuse (wl yX12_refuse cX12_refuse 3 (some .int)) ({ frames := 4, cells := 0, slots := 0, locals := 210 }) (tp D cy ld t [] [.ref a0, .int p1] (fun H => tk_f D H a0 12 13 (.int g0) ∧ tk_f D H a0 12 15 (.int g15))) (ti D cy ld t [] (fun r H => (-1) * p1.toInt + r.toInt = 0 ∧ tk_f D H a0 12 13 (.int g0) ∧ tk_f D H a0 12 15 (.int g15)) (tk_w t [(13, 0, 0), (20, 0, 0)])) 0 0 (tk_w t [(13, 0, 0), (20, 0, 0)]) := by
  refine tk_met (y := yX12_refuse) (cc := cX12_refuse) (maxL := 3) (ret := (some .int)) (av := [.ref a0, .int p1]) _ _ (by decide) (Nat.le_of_ble_eq_true rfl) ?_
  intro p e s m args below meth c hx hb hr hml hts htl hown hlocks hK H locs hH hG hS hB hZ ls hl
  have hown : s.vm.findClass RX12 = some m.cls := hown
  have hl : lv_has ls 3 [(0, .ref a0), (1, .int p1)] := hl
  obtain ⟨hg_0, hg_1⟩ := hB
  have hr_p1 := tk_rng p1
  refine lv_aload_n hx hb dX12_refuse_0 rfl (lv_at hl 0 rfl) ?_
  refine lv_iload_n hx hb dX12_refuse_1 rfl (lv_at hl 1 rfl) ?_
  refine tk_put (ci := 12) (v := .int p1) (ty := .int) (C := RX12) (T := TX12) (N := 17) (sp := (0, (-2147483648), 2147483647, 0)) hx hb htl inX12 tyX12 tyX12_ok nmX12 hown hK hG hS ht_a0 (by decide) tk_no rfl 16 (by decide) (htl _ mw_276) (fun _ h9 => h9) rfl (tyX12_ok 16 (by decide)) rfl rfl rfl (tk_V0 (tk_rng _).1 (tk_rng _).2) (fun _ h => h) (tk_w.of ht_a0 (by decide) (List.mem_of_getElem? (i := 0) rfl) (Nat.le_refl _) (Nat.le_refl _)) dX12_refuse_2 (fun H locs hG hS hf1 hq9 hj9 => ?_)
  have hg_0 := hj9 13 _ (by decide) (by decide) hg_0
  have hg_1 := hj9 15 _ (by decide) (by decide) hg_1
  refine lv_iload_n hx hb dX12_refuse_5 rfl (lv_at hl 1 rfl) ?_
  refine lv_bipush (v := (-3)) hx hb dX12_refuse_6 (by decide) ?_
  have hj10 : ∀ (v9 : Int32), ∀ ls : Array Slot, lv_has ls 3 [(0, .ref a0), (1, .int p1)] → W p l e ({ frames := 4, cells := 0, slots := 0, locals := 210 }) s m args below meth c H locs 0 0 (MQ below (ti D cy ld t [] (fun r H => (-1) * p1.toInt + r.toInt = 0 ∧ tk_f D H a0 12 13 (.int g0) ∧ tk_f D H a0 12 15 (.int g15)) (tk_w t [(13, 0, 0), (20, 0, 0)])) args s 0 0 (tk_w t [(13, 0, 0), (20, 0, 0)])) (F0 m 22 ls [.int v9]) := by
    intro v9  ls hl
    refine lv_istore_n (lv' := [(2, .int v9), (0, .ref a0), (1, .int p1)]) hx hb dX12_refuse_22 rfl hl (by decide) rfl (fun ls hl => ?_)
    refine lv_iload_n hx hb dX12_refuse_23 rfl (lv_at hl 0 rfl) ?_
    refine lv_iconst (v := 0) hx hb dX12_refuse_24 (by decide) ?_
    refine lv_aload_n hx hb dX12_refuse_25 rfl (lv_at hl 1 rfl) ?_
    refine tk_get (ci := 12) (C := RX12) (T := TX12) (N := 17) (sp := (6, 20, 5, 0)) hx hb htl inX12 hown hK hG ht_a0 (by decide) tk_no rfl 12 (by decide) (htl _ mw_54) (fun _ h9 => h9) rfl dX12_refuse_26 (fun v9 hf11 hV9 => ?_)
    obtain ⟨b12, rfl, ht_b12⟩ := hV9
    have ht_b12 : t b12 = (20, 5, 0) := ht_b12
    refine tk_alen hx hb hK hG 0 rfl ht_b12 (by decide) (fun _ h => by obtain ⟨f, h, _⟩ := h; exact ⟨_, h⟩) tk_no (by decide) dX12_refuse_29 (fun z hz => ?_)
    obtain rfl : z = 5 := (fi_eq hz (by decide)).mpr rfl
    refine lv_iconst (v := 1) hx hb dX12_refuse_30 (by decide) ?_
    refine lv_isub hx hb dX12_refuse_31 ?_
    refine fx_ti (v := 4) (by decide) ?_
    have hk_0 : (0 : Int32).toInt = 0 := by decide
    have hk_4 : (4 : Int32).toInt = 4 := by decide
    refine tk_Si (As := [.int v9, .int 0, .int 4]) (rest := []) ⟨hx, hb, hml, hown, hts⟩ hK hG hZ hS (k_X12_within_x l D cy ld t _ v9 0 4) trivial ⟨callB_of 3 hts (wl_in mw_262) rfl rfl rfl (htl _ mw_2) (htl _ mw_277) hd_yX12_within ⟨(Nat.le_of_ble_eq_true rfl), (Nat.le_of_ble_eq_true rfl)⟩, htl _ mw_261⟩ (tk_w.pick [] rfl) rfl hl.1 rfl (Nat.le_of_ble_eq_true rfl) dX12_refuse_32 ⟨(Nat.le_of_ble_eq_true rfl), (Nat.le_of_ble_eq_true rfl)⟩ (fun v13 H locs hpo hG hS hq9 => ?_)
    have hg_0 := hg_0.call hq9 tk_w.nil
    have hg_1 := hg_1.call hq9 tk_w.nil
    obtain ⟨hpo15, hpo16, hpo17, hpo18, hpo19, hpo20⟩ := hpo
    have hj29 : ∀ (H : Heap) (locs : List Loc), tk_G D cy ld t [] H → va_S (tk_w t [(13, 0, 0), (20, 0, 0)]) s.heap H locs → tk_f D H a0 12 13 (.int g0) → tk_f D H a0 12 15 (.int g15) → ∀ ls : Array Slot, lv_has ls 3 [(1, .int p1)] → W p l e ({ frames := 4, cells := 0, slots := 0, locals := 210 }) s m args below meth c H locs 0 0 (MQ below (ti D cy ld t [] (fun r H => (-1) * p1.toInt + r.toInt = 0 ∧ tk_f D H a0 12 13 (.int g0) ∧ tk_f D H a0 12 15 (.int g15)) (tk_w t [(13, 0, 0), (20, 0, 0)])) args s 0 0 (tk_w t [(13, 0, 0), (20, 0, 0)])) (F0 m 48 ls []) := by
      intro H locs hG hS hg_0 hg_1 ls hl
      refine lv_iload_n hx hb dX12_refuse_48 rfl (lv_at hl 0 rfl) ?_
      exact tk_iret (v := p1) hx hb hr rfl hlocks (show (-1) * p1.toInt + p1.toInt = 0 ∧ tk_f D H a0 12 13 (.int g0) ∧ tk_f D H a0 12 15 (.int g15) from ⟨(by omega), hg_0, hg_1⟩) hG hS dX12_refuse_49
    refine lv_if_eq (tgt := 48) hx hb dX12_refuse_35 (by decide) (fun c9 => ?_) (fun c9 => ?_)
    · have hc21 : v13.toInt = 0 := (fi_eq rfl (show (0 : Int32).toInt = 0 by decide)).mp c9
      exact hj29 _ _ hG hS hg_0 hg_1 _ (lv_sub hl [2] rfl)
    · have hc21 : ¬ (v13.toInt = 0) := fun h9 => c9 ((fi_eq rfl (show (0 : Int32).toInt = 0 by decide)).mpr h9)
      refine lv_aload_n hx hb dX12_refuse_38 rfl (lv_at hl 1 rfl) ?_
      refine tk_get (ci := 12) (C := RX12) (T := TX12) (N := 17) (sp := (6, 20, 5, 0)) hx hb htl inX12 hown hK hG ht_a0 (by decide) tk_no rfl 12 (by decide) (htl _ mw_54) (fun _ h9 => h9) rfl dX12_refuse_39 (fun v9 hf30 hV9 => ?_)
      obtain ⟨b31, rfl, ht_b31⟩ := hV9
      have ht_b31 : t b31 = (20, 5, 0) := ht_b31
      refine lv_iload_n hx hb dX12_refuse_42 rfl (lv_at hl 0 rfl) ?_
      refine lv_dup2_11 hx hb dX12_refuse_43 rfl rfl ?_
      refine tk_iald hx hb hK hG ht_b31 (by decide) (fun _ h => h) tk_no rfl (by omega) (by omega) dX12_refuse_44 (fun v32 _ _ => ?_)
      have hr_v32 := tk_rng v32
      refine lv_iconst (v := 1) hx hb dX12_refuse_45 (by decide) ?_
      refine lv_iadd hx hb dX12_refuse_46 ?_
      obtain ⟨v33, hm_v33⟩ : ∃ z : Int32, v32 + 1 = z := ⟨_, rfl⟩
      refine fx_ti hm_v33 ?_
      refine tk_iast hx hb hK hG hS ht_b31 (by decide) (fun _ => Iff.rfl) tk_no rfl (by omega) (by omega) trivial (tk_w.of ht_b31 (by decide) (List.mem_of_getElem? (i := 1) rfl) (Nat.le_refl _) (Nat.le_refl _)) dX12_refuse_47 (fun H locs hG hS hq9 => ?_)
      have hg_0 := hg_0.kept (hq9 _ (tk_ne ht_a0 ht_b31 (Or.inl (by decide))))
      have hg_1 := hg_1.kept (hq9 _ (tk_ne ht_a0 ht_b31 (Or.inl (by decide))))
      exact hj29 _ _ hG hS hg_0 hg_1 _ (lv_sub hl [2] rfl)
  refine lv_icmp_lt (tgt := 18) hx hb dX12_refuse_8 (by decide) (fun c9 => ?_) (fun c9 => ?_)
  · have hc3 : p1.toInt < (-3) := (fi_lt rfl (show ((-3) : Int32).toInt = (-3) by decide)).mp c9
    refine lv_iload_n hx hb dX12_refuse_18 rfl (lv_at hl 1 rfl) ?_
    refine lv_ineg hx hb dX12_refuse_19 ?_
    refine tk_any (fun v35 => ?_)
    refine lv_iconst (v := 2) hx hb dX12_refuse_20 (by decide) ?_
    refine lv_isub hx hb dX12_refuse_21 ?_
    obtain ⟨v36, hm_v36⟩ : ∃ z : Int32, v35 - 2 = z := ⟨_, rfl⟩
    refine fx_ti hm_v36 ?_
    exact hj10 v36 _ (lv_sub hl [0, 1] rfl)
  · have hc3 : ¬ (p1.toInt < (-3)) := fun h9 => c9 ((fi_lt rfl (show ((-3) : Int32).toInt = (-3) by decide)).mpr h9)
    refine lv_iload_n hx hb dX12_refuse_11 rfl (lv_at hl 1 rfl) ?_
    refine lv_ineg hx hb dX12_refuse_12 ?_
    refine tk_neg rfl (by omega) (by omega) (fun v37 h_v37 => ?_)
    refine lv_iconst (v := 1) hx hb dX12_refuse_13 (by decide) ?_
    refine lv_isub hx hb dX12_refuse_14 ?_
    refine tk_sub rfl (show (1 : Int32).toInt = 1 by decide) (by omega) (by omega) (fun v38 h_v38 => ?_)
    refine lv_goto (tgt := 22) hx hb dX12_refuse_15 (by decide) ?_
    exact hj10 v38 _ (lv_sub hl [0, 1] rfl)
set_option maxHeartbeats 4000000 in
set_option maxRecDepth 100000 in
theorem k_X12_tell_x (l : Launch) (D : va_G) (cy : Nat → ClassId) (ld : Nat → Nat) (t : tk_T) (a0 : Nat) (p1 : Int32) (g0 : Int32) (g15 : Int32) (ht_a0 : t a0 = (13, 0, 0)) (hp_0 : 0 ≤ g0.toInt) (hp_1 : g0.toInt ≤ 400) (hp_2 : (-2147483648) ≤ g15.toInt) (hp_3 : g15.toInt ≤ 2147483647) : Met l yX12_tell (wl yX12_tell cX12_tell 2 (some .int)) ({ frames := 5, cells := 0, slots := 0, locals := 280 }) (tp D cy ld t [] [.ref a0, .int p1] (fun H => tk_f D H a0 12 13 (.int g0) ∧ tk_f D H a0 12 15 (.int g15))) (ti D cy ld t [] (fun r H => (-1) * p1.toInt + r.toInt = 0 ∧ tk_f D H a0 12 13 (.int g0) ∧ tk_f D H a0 12 15 (.int g15)) (tk_w t [(13, 0, 0), (20, 0, 0)])) 0 0 (tk_w t [(13, 0, 0), (20, 0, 0)]) := by
  refine tk_met (y := yX12_tell) (cc := cX12_tell) (maxL := 2) (ret := (some .int)) (av := [.ref a0, .int p1]) _ _ (by decide) (Nat.le_of_ble_eq_true rfl) ?_
  intro p e s m args below meth c hx hb hr hml hts htl hown hlocks hK H locs hH hG hS hB hZ ls hl
  have hown : s.vm.findClass RX12 = some m.cls := hown
  have hl : lv_has ls 2 [(0, .ref a0), (1, .int p1)] := hl
  obtain ⟨hg_0, hg_1⟩ := hB
  have hr_p1 := tk_rng p1
  refine lv_iload_n hx hb dX12_tell_0 rfl (lv_at hl 1 rfl) ?_
  refine lv_if_ge (tgt := 12) hx hb dX12_tell_1 (by decide) (fun c9 => ?_) (fun c9 => ?_)
  · have hc1 : 0 ≤ p1.toInt := (fi_le (show (0 : Int32).toInt = 0 by decide) rfl).mp c9
    refine lv_aload_n hx hb dX12_tell_12 rfl (lv_at hl 0 rfl) ?_
    refine lv_iload_n hx hb dX12_tell_13 rfl (lv_at hl 1 rfl) ?_
    refine tk_Vi (As := [.int p1]) (rest := []) (ci := 12) ⟨hx, hb, hml, hown, hts⟩ hK hG hZ hS (k_X12_accept_x l D cy ld t a0 p1 g0 g15 ht_a0 (by omega) (by omega) (by omega) (by omega)) ⟨hg_0, hg_1⟩ ⟨callB_of 1 hts (wl_in mw_281) rfl rfl rfl (htl _ mw_2) (htl _ mw_278) hd_yX12_accept ⟨(Nat.le_of_ble_eq_true rfl), (Nat.le_of_ble_eq_true rfl)⟩, htl _ mw_279, htl _ mw_280⟩ ht_a0 (by decide) tk_no rfl (tk_w.pick [0] rfl) rfl hl.1 rfl (Nat.le_of_ble_eq_true rfl) dX12_tell_14 ⟨(Nat.le_of_ble_eq_true rfl), (Nat.le_of_ble_eq_true rfl)⟩ (fun v2 H locs hpo hG hS hq9 => ?_)
    obtain ⟨hpo4, hf5, hf6⟩ := hpo
    exact tk_iret (v := v2) hx hb hr rfl hlocks (show (-1) * p1.toInt + v2.toInt = 0 ∧ tk_f D H a0 12 13 (.int g0) ∧ tk_f D H a0 12 15 (.int g15) from ⟨(by omega), hf5, hf6⟩) hG hS dX12_tell_17
  · have hc1 : ¬ (0 ≤ p1.toInt) := fun h9 => c9 ((fi_le (show (0 : Int32).toInt = 0 by decide) rfl).mpr h9)
    refine lv_aload_n hx hb dX12_tell_4 rfl (lv_at hl 0 rfl) ?_
    refine lv_iload_n hx hb dX12_tell_5 rfl (lv_at hl 1 rfl) ?_
    refine tk_Vi (As := [.int p1]) (rest := []) (ci := 12) ⟨hx, hb, hml, hown, hts⟩ hK hG hZ hS (k_X12_refuse_x l D cy ld t a0 p1 g0 g15 ht_a0 (by omega) (by omega) (by omega) (by omega)) ⟨hg_0, hg_1⟩ ⟨callB_of 1 hts (wl_in mw_275) rfl rfl rfl (htl _ mw_2) (htl _ mw_272) hd_yX12_refuse ⟨(Nat.le_of_ble_eq_true rfl), (Nat.le_of_ble_eq_true rfl)⟩, htl _ mw_273, htl _ mw_274⟩ ht_a0 (by decide) tk_no rfl (tk_w.pick [0, 1] rfl) rfl hl.1 rfl (Nat.le_of_ble_eq_true rfl) dX12_tell_6 ⟨(Nat.le_of_ble_eq_true rfl), (Nat.le_of_ble_eq_true rfl)⟩ (fun v7 H locs hpo hG hS hq9 => ?_)
    obtain ⟨hpo9, hf10, hf11⟩ := hpo
    refine lv_goto (tgt := 17) hx hb dX12_tell_9 (by decide) ?_
    exact tk_iret (v := v7) hx hb hr rfl hlocks (show (-1) * p1.toInt + v7.toInt = 0 ∧ tk_f D H a0 12 13 (.int g0) ∧ tk_f D H a0 12 15 (.int g15) from ⟨(by omega), hf10, hf11⟩) hG hS dX12_tell_17
set_option maxHeartbeats 4000000 in
set_option maxRecDepth 100000 in
theorem k_X2_addSinger_x (l : Launch) (D : va_G) (cy : Nat → ClassId) (ld : Nat → Nat) (t : tk_T) (a0 : Nat) (p1 : Int32) (p2 : Int32) (p3 : Int32) (n0 n1 n2 n3 : Int32) (fh fs fk q1 q2 q3 : Nat → Int32) (ht_a0 : t a0 = (3, 0, 0)) (ht_ld70 : t (ld 70) = (32, 8, 0)) (ht_ld80 : t (ld 80) = (33, 10, 0)) (ht_ld90 : t (ld 90) = (34, 10, 0)) (ht_ld100 : t (ld 100) = (35, 10, 0)) (ht_ld110 : t (ld 110) = (36, 10, 0)) (ht_ld120 : t (ld 120) = (37, 10, 0)) (hp_0 : 0 ≤ n0.toInt) (hp_1 : n0.toInt ≤ 8) (hp_2 : 0 ≤ n1.toInt) (hp_3 : n1.toInt ≤ 10) (hp_4 : 0 ≤ n2.toInt) (hp_5 : n2.toInt ≤ 10) (hp_6 : 0 ≤ n3.toInt) (hp_7 : n3.toInt ≤ 8) : Met l yX2_addSinger (wl yX2_addSinger cX2_addSinger 5 (some .int)) ({ frames := 4, cells := 0, slots := 0, locals := 210 }) (tp D cy ld t [] [.ref a0, .int p1, .int p2, .int p3] (fun H => jC D ld a0 0 n0 n1 n2 n3 fh fs fk q1 q2 q3 H)) (ti D cy ld t [] (fun r H => (p1.toInt ≤ (-1) → r.toInt + 1 = 0) ∧ (1000 ≤ p1.toInt → r.toInt + 1 = 0) ∧ (p2.toInt ≤ (-1) → r.toInt + 1 = 0) ∧ (10 ≤ p2.toInt → r.toInt + 1 = 0) ∧ (p3.toInt ≤ (-1) → r.toInt + 1 = 0) ∧ (2 ≤ p3.toInt → r.toInt + 1 = 0) ∧ (0 ≤ p1.toInt → p1.toInt ≤ 999 → 0 ≤ p2.toInt → p2.toInt ≤ 9 → 0 ≤ p3.toInt → p3.toInt ≤ 1 → 8 ≤ n0.toInt → r.toInt + 5 = 0) ∧ (0 ≤ p1.toInt → p1.toInt ≤ 999 → 0 ≤ p2.toInt → p2.toInt ≤ 9 → 0 ≤ p3.toInt → p3.toInt ≤ 1 → n0.toInt ≤ 7 → (-1) * n0.toInt + r.toInt = 0) ∧ (0 ≤ r.toInt → 0 ≤ p1.toInt ∧ p1.toInt ≤ 999 ∧ 0 ≤ p2.toInt ∧ p2.toInt ≤ 9 ∧ 0 ≤ p3.toInt ∧ p3.toInt ≤ 1 ∧ n0.toInt ≤ 7) ∧ (∃ n0x : Int32, jC D ld a0 0 n0x n1 n2 n3 (cif r (upd fh n0.toInt.toNat 0) fh) fs fk q1 q2 q3 H ∧ (0 ≤ r.toInt → (-1) * n0.toInt + n0x.toInt + (-1) = 0) ∧ (r.toInt ≤ (-1) → (-1) * n0.toInt + n0x.toInt = 0))) (tk_w t [(20, 0, 0), (21, 0, 0), (32, 0, 0), (3, 0, 0)])) 0 0 (tk_w t [(20, 0, 0), (21, 0, 0), (32, 0, 0), (3, 0, 0)]) := by
  refine tk_met (y := yX2_addSinger) (cc := cX2_addSinger) (maxL := 5) (ret := (some .int)) (av := [.ref a0, .int p1, .int p2, .int p3]) _ _ (by decide) (Nat.le_of_ble_eq_true rfl) ?_
  intro p e s m args below meth c hx hb hr hml hts htl hown hlocks hK H locs hH hG hS hB hZ ls hl
  have hown : s.vm.findClass RX2 = some m.cls := hown
  have hl : lv_has ls 5 [(0, .ref a0), (1, .int p1), (2, .int p2), (3, .int p3)] := hl
  have ⟨hj0_0, hj0_1, hj0_2, hj0_3, hj0_4, hj0_5, hj0_6, hj0_7, hj0_8, hj0_9⟩ := hB
  have hr_p1 := tk_rng p1
  have hr_p2 := tk_rng p2
  have hr_p3 := tk_rng p3
  refine lv_iload_n hx hb dX2_addSinger_0 rfl (lv_at hl 1 rfl) ?_
  refine lv_iconst (v := 0) hx hb dX2_addSinger_1 (by decide) ?_
  refine lv_sipush (v := 999) hx hb dX2_addSinger_2 (by decide) ?_
  have hk_0 : (0 : Int32).toInt = 0 := by decide
  have hk_999 : (999 : Int32).toInt = 999 := by decide
  refine tk_Ni (As := [.int p1, .int 0, .int 999]) (rest := []) ⟨hx, hb, hml, hown, hts⟩ hK hG hZ hS (k_X12_within_x l D cy ld t _ p1 0 999) trivial ⟨va_cnB 3 hts (wl_in mw_262) rfl rfl rfl hK.2.2.2.1.1 (htl _ mw_2) hd_yX12_within ⟨(Nat.le_of_ble_eq_true rfl), (Nat.le_of_ble_eq_true rfl)⟩, htl _ mw_261, trivial⟩ (tk_w.pick [] rfl) rfl hl.1 rfl (Nat.le_of_ble_eq_true rfl) dX2_addSinger_5 ⟨(Nat.le_of_ble_eq_true rfl), (Nat.le_of_ble_eq_true rfl)⟩ (fun v1 H locs hpo hG hS hq9 => ?_)
  have hj0_0 := hj0_0.call hq9 tk_w.nil
  have hj0_1 := hj0_1.call hq9 tk_w.nil
  have hj0_2 := hj0_2.call hq9 tk_w.nil
  have hj0_3 := hj0_3.call hq9 tk_w.nil
  have hj0_4 := hj0_4.call hq9 tk_w.nil
  have hj0_5 := hj0_5.call hq9 tk_w.nil
  have hj0_6 := hj0_6.call hq9 tk_w.nil
  have hj0_7 := hj0_7.call hq9 tk_w.nil
  have hj0_8 := hj0_8.call hq9 tk_w.nil
  have hj0_9 := hj0_9.call hq9 tk_w.nil
  obtain ⟨hpo3, hpo4, hpo5, hpo6, hpo7, hpo8⟩ := hpo
  refine lv_if_eq (tgt := 30) hx hb dX2_addSinger_8 (by decide) (fun c9 => ?_) (fun c9 => ?_)
  · have hc9 : v1.toInt = 0 := (fi_eq rfl (show (0 : Int32).toInt = 0 by decide)).mp c9
    refine lv_iconst (v := (-1)) hx hb dX2_addSinger_30 (by decide) ?_
    have hk_m1 : ((-1) : Int32).toInt = (-1) := by decide
    exact tk_iret (v := (-1)) hx hb hr rfl hlocks (show (p1.toInt ≤ (-1) → ((-1) : Int32).toInt + 1 = 0) ∧ (1000 ≤ p1.toInt → ((-1) : Int32).toInt + 1 = 0) ∧ (p2.toInt ≤ (-1) → ((-1) : Int32).toInt + 1 = 0) ∧ (10 ≤ p2.toInt → ((-1) : Int32).toInt + 1 = 0) ∧ (p3.toInt ≤ (-1) → ((-1) : Int32).toInt + 1 = 0) ∧ (2 ≤ p3.toInt → ((-1) : Int32).toInt + 1 = 0) ∧ (0 ≤ p1.toInt → p1.toInt ≤ 999 → 0 ≤ p2.toInt → p2.toInt ≤ 9 → 0 ≤ p3.toInt → p3.toInt ≤ 1 → 8 ≤ n0.toInt → ((-1) : Int32).toInt + 5 = 0) ∧ (0 ≤ p1.toInt → p1.toInt ≤ 999 → 0 ≤ p2.toInt → p2.toInt ≤ 9 → 0 ≤ p3.toInt → p3.toInt ≤ 1 → n0.toInt ≤ 7 → (-1) * n0.toInt + ((-1) : Int32).toInt = 0) ∧ (0 ≤ ((-1) : Int32).toInt → 0 ≤ p1.toInt ∧ p1.toInt ≤ 999 ∧ 0 ≤ p2.toInt ∧ p2.toInt ≤ 9 ∧ 0 ≤ p3.toInt ∧ p3.toInt ≤ 1 ∧ n0.toInt ≤ 7) ∧ (∃ n0x : Int32, jC D ld a0 0 n0x n1 n2 n3 (cif ((-1) : Int32) (upd fh n0.toInt.toNat 0) fh) fs fk q1 q2 q3 H ∧ (0 ≤ ((-1) : Int32).toInt → (-1) * n0.toInt + n0x.toInt + (-1) = 0) ∧ (((-1) : Int32).toInt ≤ (-1) → (-1) * n0.toInt + n0x.toInt = 0)) from ⟨(fun _ => by omega), (fun _ => by omega), (fun _ => by omega), (fun _ => by omega), (fun _ => by omega), (fun _ => by omega), (fun _ _ _ _ _ _ _ => by omega), (fun _ _ _ _ _ _ _ => by omega), (fun _ => ⟨by omega, by omega, by omega, by omega, by omega, by omega, by omega⟩), ⟨n0, ⟨hj0_0, hj0_1, hj0_2, hj0_3, (hj0_4.cg (cif_f (by omega)).symm), hj0_5, hj0_6, hj0_7, hj0_8, hj0_9⟩, (fun _ => by omega), (fun _ => by omega)⟩⟩) hG hS dX2_addSinger_31
  · have hc9 : ¬ (v1.toInt = 0) := fun h9 => c9 ((fi_eq rfl (show (0 : Int32).toInt = 0 by decide)).mpr h9)
    refine lv_iload_n hx hb dX2_addSinger_11 rfl (lv_at hl 2 rfl) ?_
    refine lv_iconst (v := 0) hx hb dX2_addSinger_12 (by decide) ?_
    refine lv_bipush (v := 9) hx hb dX2_addSinger_13 (by decide) ?_
    have hk_0 : (0 : Int32).toInt = 0 := by decide
    have hk_9 : (9 : Int32).toInt = 9 := by decide
    refine tk_Ni (As := [.int p2, .int 0, .int 9]) (rest := []) ⟨hx, hb, hml, hown, hts⟩ hK hG hZ hS (k_X12_within_x l D cy ld t _ p2 0 9) trivial ⟨va_cnB 3 hts (wl_in mw_262) rfl rfl rfl hK.2.2.2.1.1 (htl _ mw_2) hd_yX12_within ⟨(Nat.le_of_ble_eq_true rfl), (Nat.le_of_ble_eq_true rfl)⟩, htl _ mw_261, trivial⟩ (tk_w.pick [] rfl) rfl hl.1 rfl (Nat.le_of_ble_eq_true rfl) dX2_addSinger_15 ⟨(Nat.le_of_ble_eq_true rfl), (Nat.le_of_ble_eq_true rfl)⟩ (fun v10 H locs hpo hG hS hq9 => ?_)
    have hj0_0 := hj0_0.call hq9 tk_w.nil
    have hj0_1 := hj0_1.call hq9 tk_w.nil
    have hj0_2 := hj0_2.call hq9 tk_w.nil
    have hj0_3 := hj0_3.call hq9 tk_w.nil
    have hj0_4 := hj0_4.call hq9 tk_w.nil
    have hj0_5 := hj0_5.call hq9 tk_w.nil
    have hj0_6 := hj0_6.call hq9 tk_w.nil
    have hj0_7 := hj0_7.call hq9 tk_w.nil
    have hj0_8 := hj0_8.call hq9 tk_w.nil
    have hj0_9 := hj0_9.call hq9 tk_w.nil
    obtain ⟨hpo12, hpo13, hpo14, hpo15, hpo16, hpo17⟩ := hpo
    refine lv_if_eq (tgt := 30) hx hb dX2_addSinger_18 (by decide) (fun c9 => ?_) (fun c9 => ?_)
    · have hc18 : v10.toInt = 0 := (fi_eq rfl (show (0 : Int32).toInt = 0 by decide)).mp c9
      refine lv_iconst (v := (-1)) hx hb dX2_addSinger_30 (by decide) ?_
      have hk_m1 : ((-1) : Int32).toInt = (-1) := by decide
      exact tk_iret (v := (-1)) hx hb hr rfl hlocks (show (p1.toInt ≤ (-1) → ((-1) : Int32).toInt + 1 = 0) ∧ (1000 ≤ p1.toInt → ((-1) : Int32).toInt + 1 = 0) ∧ (p2.toInt ≤ (-1) → ((-1) : Int32).toInt + 1 = 0) ∧ (10 ≤ p2.toInt → ((-1) : Int32).toInt + 1 = 0) ∧ (p3.toInt ≤ (-1) → ((-1) : Int32).toInt + 1 = 0) ∧ (2 ≤ p3.toInt → ((-1) : Int32).toInt + 1 = 0) ∧ (0 ≤ p1.toInt → p1.toInt ≤ 999 → 0 ≤ p2.toInt → p2.toInt ≤ 9 → 0 ≤ p3.toInt → p3.toInt ≤ 1 → 8 ≤ n0.toInt → ((-1) : Int32).toInt + 5 = 0) ∧ (0 ≤ p1.toInt → p1.toInt ≤ 999 → 0 ≤ p2.toInt → p2.toInt ≤ 9 → 0 ≤ p3.toInt → p3.toInt ≤ 1 → n0.toInt ≤ 7 → (-1) * n0.toInt + ((-1) : Int32).toInt = 0) ∧ (0 ≤ ((-1) : Int32).toInt → 0 ≤ p1.toInt ∧ p1.toInt ≤ 999 ∧ 0 ≤ p2.toInt ∧ p2.toInt ≤ 9 ∧ 0 ≤ p3.toInt ∧ p3.toInt ≤ 1 ∧ n0.toInt ≤ 7) ∧ (∃ n0x : Int32, jC D ld a0 0 n0x n1 n2 n3 (cif ((-1) : Int32) (upd fh n0.toInt.toNat 0) fh) fs fk q1 q2 q3 H ∧ (0 ≤ ((-1) : Int32).toInt → (-1) * n0.toInt + n0x.toInt + (-1) = 0) ∧ (((-1) : Int32).toInt ≤ (-1) → (-1) * n0.toInt + n0x.toInt = 0)) from ⟨(fun _ => by omega), (fun _ => by omega), (fun _ => by omega), (fun _ => by omega), (fun _ => by omega), (fun _ => by omega), (fun _ _ _ _ _ _ _ => by omega), (fun _ _ _ _ _ _ _ => by omega), (fun _ => ⟨by omega, by omega, by omega, by omega, by omega, by omega, by omega⟩), ⟨n0, ⟨hj0_0, hj0_1, hj0_2, hj0_3, (hj0_4.cg (cif_f (by omega)).symm), hj0_5, hj0_6, hj0_7, hj0_8, hj0_9⟩, (fun _ => by omega), (fun _ => by omega)⟩⟩) hG hS dX2_addSinger_31
    · have hc18 : ¬ (v10.toInt = 0) := fun h9 => c9 ((fi_eq rfl (show (0 : Int32).toInt = 0 by decide)).mpr h9)
      refine lv_iload_n hx hb dX2_addSinger_21 rfl (lv_at hl 3 rfl) ?_
      refine lv_iconst (v := 0) hx hb dX2_addSinger_22 (by decide) ?_
      refine lv_iconst (v := 1) hx hb dX2_addSinger_23 (by decide) ?_
      have hk_0 : (0 : Int32).toInt = 0 := by decide
      have hk_1 : (1 : Int32).toInt = 1 := by decide
      refine tk_Ni (As := [.int p3, .int 0, .int 1]) (rest := []) ⟨hx, hb, hml, hown, hts⟩ hK hG hZ hS (k_X12_within_x l D cy ld t _ p3 0 1) trivial ⟨va_cnB 3 hts (wl_in mw_262) rfl rfl rfl hK.2.2.2.1.1 (htl _ mw_2) hd_yX12_within ⟨(Nat.le_of_ble_eq_true rfl), (Nat.le_of_ble_eq_true rfl)⟩, htl _ mw_261, trivial⟩ (tk_w.pick [] rfl) rfl hl.1 rfl (Nat.le_of_ble_eq_true rfl) dX2_addSinger_24 ⟨(Nat.le_of_ble_eq_true rfl), (Nat.le_of_ble_eq_true rfl)⟩ (fun v19 H locs hpo hG hS hq9 => ?_)
      have hj0_0 := hj0_0.call hq9 tk_w.nil
      have hj0_1 := hj0_1.call hq9 tk_w.nil
      have hj0_2 := hj0_2.call hq9 tk_w.nil
      have hj0_3 := hj0_3.call hq9 tk_w.nil
      have hj0_4 := hj0_4.call hq9 tk_w.nil
      have hj0_5 := hj0_5.call hq9 tk_w.nil
      have hj0_6 := hj0_6.call hq9 tk_w.nil
      have hj0_7 := hj0_7.call hq9 tk_w.nil
      have hj0_8 := hj0_8.call hq9 tk_w.nil
      have hj0_9 := hj0_9.call hq9 tk_w.nil
      obtain ⟨hpo21, hpo22, hpo23, hpo24, hpo25, hpo26⟩ := hpo
      refine lv_if_ne (tgt := 32) hx hb dX2_addSinger_27 (by decide) (fun c9 => ?_) (fun c9 => ?_)
      · have hc27 : ¬ (v19.toInt = 0) := fun h9 => c9 ((fi_eq rfl (show (0 : Int32).toInt = 0 by decide)).mpr h9)
        refine lv_aload_n hx hb dX2_addSinger_32 rfl (lv_at hl 0 rfl) ?_
        refine tk_getk (ci := 2) (C := RX2) (T := TX2) (N := 20) (sp := (0, 0, 8, 0)) hx hb htl inX2 hown hK hG ht_a0 (by decide) tk_no rfl 0 (by decide) (htl _ mw_257) (fun _ h9 => h9) rfl hj0_0 dX2_addSinger_33 ?_
        refine lv_bipush (v := 8) hx hb dX2_addSinger_36 (by decide) ?_
        refine lv_icmp_lt (tgt := 44) hx hb dX2_addSinger_38 (by decide) (fun c9 => ?_) (fun c9 => ?_)
        · have hc28 : n0.toInt < 8 := (fi_lt rfl (show (8 : Int32).toInt = 8 by decide)).mp c9
          refine lv_aload_n hx hb dX2_addSinger_44 rfl (lv_at hl 0 rfl) ?_
          refine tk_getk (ci := 2) (C := RX2) (T := TX2) (N := 20) (sp := (0, 0, 8, 0)) hx hb htl inX2 hown hK hG ht_a0 (by decide) tk_no rfl 0 (by decide) (htl _ mw_257) (fun _ h9 => h9) rfl hj0_0 dX2_addSinger_45 ?_
          refine lv_istore (lv' := [(4, .int n0), (0, .ref a0), (1, .int p1), (2, .int p2), (3, .int p3)]) hx hb dX2_addSinger_48 hl (by decide) rfl (fun ls hl => ?_)
          refine lv_aload_n hx hb dX2_addSinger_50 rfl (lv_at hl 1 rfl) ?_
          refine tk_get (ci := 2) (C := RX2) (T := TX2) (N := 20) (sp := (1, 20, 8, 0)) hx hb htl inX2 hown hK hG ht_a0 (by decide) tk_no rfl 1 (by decide) (htl _ mw_60) (fun _ h9 => h9) rfl dX2_addSinger_51 (fun v9 hf29 hV9 => ?_)
          obtain ⟨b30, rfl, ht_b30⟩ := hV9
          have ht_b30 : t b30 = (20, 8, 0) := ht_b30
          refine lv_iload hx hb dX2_addSinger_54 (lv_at hl 0 rfl) ?_
          refine lv_iload_n hx hb dX2_addSinger_56 rfl (lv_at hl 3 rfl) ?_
          refine tk_iast hx hb hK hG hS ht_b30 (by decide) (fun _ => Iff.rfl) tk_no rfl (by omega) (by omega) trivial (tk_w.of ht_b30 (by decide) (List.mem_of_getElem? (i := 0) rfl) (Nat.le_refl _) (Nat.le_refl _)) dX2_addSinger_57 (fun H locs hG hS hq9 => ?_)
          have hj0_0 := hj0_0.kept (hq9 _ (tk_ne ht_a0 ht_b30 (Or.inl (by decide))))
          have hj0_1 := hj0_1.kept (hq9 _ (tk_ne ht_a0 ht_b30 (Or.inl (by decide))))
          have hj0_2 := hj0_2.kept (hq9 _ (tk_ne ht_a0 ht_b30 (Or.inl (by decide))))
          have hj0_3 := hj0_3.kept (hq9 _ (tk_ne ht_a0 ht_b30 (Or.inl (by decide))))
          have hj0_4 := hj0_4.kept (hq9 _ (tk_ne ht_ld70 ht_b30 (Or.inl (by decide))))
          have hj0_5 := hj0_5.kept (hq9 _ (tk_ne ht_ld80 ht_b30 (Or.inl (by decide))))
          have hj0_6 := hj0_6.kept (hq9 _ (tk_ne ht_ld90 ht_b30 (Or.inl (by decide))))
          have hj0_7 := hj0_7.kept (hq9 _ (tk_ne ht_ld100 ht_b30 (Or.inl (by decide))))
          have hj0_8 := hj0_8.kept (hq9 _ (tk_ne ht_ld110 ht_b30 (Or.inl (by decide))))
          have hj0_9 := hj0_9.kept (hq9 _ (tk_ne ht_ld120 ht_b30 (Or.inl (by decide))))
          refine lv_aload_n hx hb dX2_addSinger_58 rfl (lv_at hl 1 rfl) ?_
          refine tk_get (ci := 2) (C := RX2) (T := TX2) (N := 20) (sp := (1, 21, 8, 0)) hx hb htl inX2 hown hK hG ht_a0 (by decide) tk_no rfl 2 (by decide) (htl _ mw_61) (fun _ h9 => h9) rfl dX2_addSinger_59 (fun v9 hf32 hV9 => ?_)
          obtain ⟨b33, rfl, ht_b33⟩ := hV9
          have ht_b33 : t b33 = (21, 8, 0) := ht_b33
          refine lv_iload hx hb dX2_addSinger_62 (lv_at hl 0 rfl) ?_
          refine lv_iload_n hx hb dX2_addSinger_64 rfl (lv_at hl 4 rfl) ?_
          refine tk_iast hx hb hK hG hS ht_b33 (by decide) (fun _ => Iff.rfl) tk_no rfl (by omega) (by omega) (show 0 ≤ (p3 : Int32).toInt ∧ (p3 : Int32).toInt ≤ 1 from ⟨by omega, by omega⟩) (tk_w.of ht_b33 (by decide) (List.mem_of_getElem? (i := 1) rfl) (Nat.le_refl _) (Nat.le_refl _)) dX2_addSinger_65 (fun H locs hG hS hq9 => ?_)
          have hj0_0 := hj0_0.kept (hq9 _ (tk_ne ht_a0 ht_b33 (Or.inl (by decide))))
          have hj0_1 := hj0_1.kept (hq9 _ (tk_ne ht_a0 ht_b33 (Or.inl (by decide))))
          have hj0_2 := hj0_2.kept (hq9 _ (tk_ne ht_a0 ht_b33 (Or.inl (by decide))))
          have hj0_3 := hj0_3.kept (hq9 _ (tk_ne ht_a0 ht_b33 (Or.inl (by decide))))
          have hj0_4 := hj0_4.kept (hq9 _ (tk_ne ht_ld70 ht_b33 (Or.inl (by decide))))
          have hj0_5 := hj0_5.kept (hq9 _ (tk_ne ht_ld80 ht_b33 (Or.inl (by decide))))
          have hj0_6 := hj0_6.kept (hq9 _ (tk_ne ht_ld90 ht_b33 (Or.inl (by decide))))
          have hj0_7 := hj0_7.kept (hq9 _ (tk_ne ht_ld100 ht_b33 (Or.inl (by decide))))
          have hj0_8 := hj0_8.kept (hq9 _ (tk_ne ht_ld110 ht_b33 (Or.inl (by decide))))
          have hj0_9 := hj0_9.kept (hq9 _ (tk_ne ht_ld120 ht_b33 (Or.inl (by decide))))
          refine lv_aload_n hx hb dX2_addSinger_66 rfl (lv_at hl 1 rfl) ?_
          refine tk_get (ci := 2) (C := RX2) (T := TX2) (N := 20) (sp := (11, 70, 32, 8)) hx hb htl inX2 hown hK hG ht_a0 (by decide) tk_no rfl 3 (by decide) (htl _ mw_62) (fun _ h9 => h9) rfl dX2_addSinger_67 (fun v9 hf35 hV9 => ?_)
          obtain ⟨rfl, ht_ld70⟩ := hV9
          have ht_ld70 : t (ld 70) = (32, 8, 0) := ht_ld70
          refine fx_top (v := .ref (ld 70)) rfl ?_
          refine lv_iload hx hb dX2_addSinger_70 (lv_at hl 0 rfl) ?_
          refine lv_iconst (v := 0) hx hb dX2_addSinger_72 (by decide) ?_
          have hk_0 : (0 : Int32).toInt = 0 := by decide
          refine tk_iastC hx hb hK hG hS ht_ld70 (by decide) (fun _ => Iff.rfl) tk_no rfl (by omega) (by omega) trivial (tk_w.of ht_ld70 (by decide) (List.mem_of_getElem? (i := 2) rfl) (Nat.le_refl _) (Nat.le_refl _)) dX2_addSinger_73 hj0_4 (fun H locs hG hS hq9 hj37 => ?_)
          have hj37 : tk_c H (ld 70) 8 (upd fh n0.toNatClampNeg (0 : Int32)) := hj37
          have hj0_0 := hj0_0.kept (hq9 _ (tk_ne ht_a0 ht_ld70 (Or.inl (by decide))))
          have hj0_1 := hj0_1.kept (hq9 _ (tk_ne ht_a0 ht_ld70 (Or.inl (by decide))))
          have hj0_2 := hj0_2.kept (hq9 _ (tk_ne ht_a0 ht_ld70 (Or.inl (by decide))))
          have hj0_3 := hj0_3.kept (hq9 _ (tk_ne ht_a0 ht_ld70 (Or.inl (by decide))))
          have hj0_5 := hj0_5.kept (hq9 _ (tk_ne ht_ld80 ht_ld70 (Or.inl (by decide))))
          have hj0_6 := hj0_6.kept (hq9 _ (tk_ne ht_ld90 ht_ld70 (Or.inl (by decide))))
          have hj0_7 := hj0_7.kept (hq9 _ (tk_ne ht_ld100 ht_ld70 (Or.inl (by decide))))
          have hj0_8 := hj0_8.kept (hq9 _ (tk_ne ht_ld110 ht_ld70 (Or.inl (by decide))))
          have hj0_9 := hj0_9.kept (hq9 _ (tk_ne ht_ld120 ht_ld70 (Or.inl (by decide))))
          refine lv_aload_n hx hb dX2_addSinger_74 rfl (lv_at hl 1 rfl) ?_
          refine tk_get (ci := 2) (C := RX2) (T := TX2) (N := 20) (sp := (9, 40, 10, 0)) hx hb htl inX2 hown hK hG ht_a0 (by decide) tk_no rfl 19 (by decide) (htl _ mw_77) (fun _ h9 => h9) rfl dX2_addSinger_75 (fun v9 hf38 hV9 => ?_)
          obtain ⟨rfl, ht_ld40⟩ := hV9
          have ht_ld40 : t (ld 40) = (10, 0, 0) := ht_ld40
          refine fx_top (v := .ref (ld 40)) rfl ?_
          refine tk_get (ci := 9) (C := RX9) (T := TX9) (N := 11) (sp := (1, 20, 8, 0)) hx hb htl inX9 hown hK hG ht_ld40 (by decide) tk_no rfl 0 (by decide) (htl _ mw_258) (fun _ h9 => h9) rfl dX2_addSinger_78 (fun v9 hf39 hV9 => ?_)
          obtain ⟨b40, rfl, ht_b40⟩ := hV9
          have ht_b40 : t b40 = (20, 8, 0) := ht_b40
          refine lv_iload hx hb dX2_addSinger_81 (lv_at hl 0 rfl) ?_
          refine lv_iload_n hx hb dX2_addSinger_83 rfl (lv_at hl 2 rfl) ?_
          refine tk_iast hx hb hK hG hS ht_b40 (by decide) (fun _ => Iff.rfl) tk_no rfl (by omega) (by omega) trivial (tk_w.of ht_b40 (by decide) (List.mem_of_getElem? (i := 0) rfl) (Nat.le_refl _) (Nat.le_refl _)) dX2_addSinger_84 (fun H locs hG hS hq9 => ?_)
          have hj0_0 := hj0_0.kept (hq9 _ (tk_ne ht_a0 ht_b40 (Or.inl (by decide))))
          have hj0_1 := hj0_1.kept (hq9 _ (tk_ne ht_a0 ht_b40 (Or.inl (by decide))))
          have hj0_2 := hj0_2.kept (hq9 _ (tk_ne ht_a0 ht_b40 (Or.inl (by decide))))
          have hj0_3 := hj0_3.kept (hq9 _ (tk_ne ht_a0 ht_b40 (Or.inl (by decide))))
          have hj0_5 := hj0_5.kept (hq9 _ (tk_ne ht_ld80 ht_b40 (Or.inl (by decide))))
          have hj0_6 := hj0_6.kept (hq9 _ (tk_ne ht_ld90 ht_b40 (Or.inl (by decide))))
          have hj0_7 := hj0_7.kept (hq9 _ (tk_ne ht_ld100 ht_b40 (Or.inl (by decide))))
          have hj0_8 := hj0_8.kept (hq9 _ (tk_ne ht_ld110 ht_b40 (Or.inl (by decide))))
          have hj0_9 := hj0_9.kept (hq9 _ (tk_ne ht_ld120 ht_b40 (Or.inl (by decide))))
          have hj37 := hj37.kept (hq9 _ (tk_ne ht_ld70 ht_b40 (Or.inl (by decide))))
          refine lv_aload_n hx hb dX2_addSinger_85 rfl (lv_at hl 1 rfl) ?_
          refine tk_get (ci := 2) (C := RX2) (T := TX2) (N := 20) (sp := (9, 40, 10, 0)) hx hb htl inX2 hown hK hG ht_a0 (by decide) tk_no rfl 19 (by decide) (htl _ mw_77) (fun _ h9 => h9) rfl dX2_addSinger_86 (fun v9 hf42 hV9 => ?_)
          obtain ⟨rfl, ht_ld40⟩ := hV9
          have ht_ld40 : t (ld 40) = (10, 0, 0) := ht_ld40
          refine fx_top (v := .ref (ld 40)) rfl ?_
          refine tk_get (ci := 9) (C := RX9) (T := TX9) (N := 11) (sp := (1, 20, 8, 0)) hx hb htl inX9 hown hK hG ht_ld40 (by decide) tk_no rfl 1 (by decide) (htl _ mw_259) (fun _ h9 => h9) rfl dX2_addSinger_89 (fun v9 hf43 hV9 => ?_)
          obtain ⟨b44, rfl, ht_b44⟩ := hV9
          have ht_b44 : t b44 = (20, 8, 0) := ht_b44
          refine lv_iload hx hb dX2_addSinger_92 (lv_at hl 0 rfl) ?_
          refine lv_iconst (v := 0) hx hb dX2_addSinger_94 (by decide) ?_
          refine tk_iast hx hb hK hG hS ht_b44 (by decide) (fun _ => Iff.rfl) tk_no rfl (by omega) (by omega) trivial (tk_w.of ht_b44 (by decide) (List.mem_of_getElem? (i := 0) rfl) (Nat.le_refl _) (Nat.le_refl _)) dX2_addSinger_95 (fun H locs hG hS hq9 => ?_)
          have hj0_0 := hj0_0.kept (hq9 _ (tk_ne ht_a0 ht_b44 (Or.inl (by decide))))
          have hj0_1 := hj0_1.kept (hq9 _ (tk_ne ht_a0 ht_b44 (Or.inl (by decide))))
          have hj0_2 := hj0_2.kept (hq9 _ (tk_ne ht_a0 ht_b44 (Or.inl (by decide))))
          have hj0_3 := hj0_3.kept (hq9 _ (tk_ne ht_a0 ht_b44 (Or.inl (by decide))))
          have hj0_5 := hj0_5.kept (hq9 _ (tk_ne ht_ld80 ht_b44 (Or.inl (by decide))))
          have hj0_6 := hj0_6.kept (hq9 _ (tk_ne ht_ld90 ht_b44 (Or.inl (by decide))))
          have hj0_7 := hj0_7.kept (hq9 _ (tk_ne ht_ld100 ht_b44 (Or.inl (by decide))))
          have hj0_8 := hj0_8.kept (hq9 _ (tk_ne ht_ld110 ht_b44 (Or.inl (by decide))))
          have hj0_9 := hj0_9.kept (hq9 _ (tk_ne ht_ld120 ht_b44 (Or.inl (by decide))))
          have hj37 := hj37.kept (hq9 _ (tk_ne ht_ld70 ht_b44 (Or.inl (by decide))))
          refine lv_aload_n hx hb dX2_addSinger_96 rfl (lv_at hl 1 rfl) ?_
          refine tk_get (ci := 2) (C := RX2) (T := TX2) (N := 20) (sp := (9, 40, 10, 0)) hx hb htl inX2 hown hK hG ht_a0 (by decide) tk_no rfl 19 (by decide) (htl _ mw_77) (fun _ h9 => h9) rfl dX2_addSinger_97 (fun v9 hf46 hV9 => ?_)
          obtain ⟨rfl, ht_ld40⟩ := hV9
          have ht_ld40 : t (ld 40) = (10, 0, 0) := ht_ld40
          refine fx_top (v := .ref (ld 40)) rfl ?_
          refine tk_get (ci := 9) (C := RX9) (T := TX9) (N := 11) (sp := (1, 20, 8, 0)) hx hb htl inX9 hown hK hG ht_ld40 (by decide) tk_no rfl 2 (by decide) (htl _ mw_260) (fun _ h9 => h9) rfl dX2_addSinger_100 (fun v9 hf47 hV9 => ?_)
          obtain ⟨b48, rfl, ht_b48⟩ := hV9
          have ht_b48 : t b48 = (20, 8, 0) := ht_b48
          refine lv_iload hx hb dX2_addSinger_103 (lv_at hl 0 rfl) ?_
          refine lv_iconst (v := 0) hx hb dX2_addSinger_105 (by decide) ?_
          refine tk_iast hx hb hK hG hS ht_b48 (by decide) (fun _ => Iff.rfl) tk_no rfl (by omega) (by omega) trivial (tk_w.of ht_b48 (by decide) (List.mem_of_getElem? (i := 0) rfl) (Nat.le_refl _) (Nat.le_refl _)) dX2_addSinger_106 (fun H locs hG hS hq9 => ?_)
          have hj0_0 := hj0_0.kept (hq9 _ (tk_ne ht_a0 ht_b48 (Or.inl (by decide))))
          have hj0_1 := hj0_1.kept (hq9 _ (tk_ne ht_a0 ht_b48 (Or.inl (by decide))))
          have hj0_2 := hj0_2.kept (hq9 _ (tk_ne ht_a0 ht_b48 (Or.inl (by decide))))
          have hj0_3 := hj0_3.kept (hq9 _ (tk_ne ht_a0 ht_b48 (Or.inl (by decide))))
          have hj0_5 := hj0_5.kept (hq9 _ (tk_ne ht_ld80 ht_b48 (Or.inl (by decide))))
          have hj0_6 := hj0_6.kept (hq9 _ (tk_ne ht_ld90 ht_b48 (Or.inl (by decide))))
          have hj0_7 := hj0_7.kept (hq9 _ (tk_ne ht_ld100 ht_b48 (Or.inl (by decide))))
          have hj0_8 := hj0_8.kept (hq9 _ (tk_ne ht_ld110 ht_b48 (Or.inl (by decide))))
          have hj0_9 := hj0_9.kept (hq9 _ (tk_ne ht_ld120 ht_b48 (Or.inl (by decide))))
          have hj37 := hj37.kept (hq9 _ (tk_ne ht_ld70 ht_b48 (Or.inl (by decide))))
          refine lv_aload_n hx hb dX2_addSinger_107 rfl (lv_at hl 1 rfl) ?_
          refine lv_dup hx hb dX2_addSinger_108 rfl ?_
          refine tk_getk (ci := 2) (C := RX2) (T := TX2) (N := 20) (sp := (0, 0, 8, 0)) hx hb htl inX2 hown hK hG ht_a0 (by decide) tk_no rfl 0 (by decide) (htl _ mw_257) (fun _ h9 => h9) rfl hj0_0 dX2_addSinger_109 ?_
          refine lv_iconst (v := 1) hx hb dX2_addSinger_112 (by decide) ?_
          refine lv_iadd hx hb dX2_addSinger_113 ?_
          refine tk_add rfl (show (1 : Int32).toInt = 1 by decide) (by omega) (by omega) (fun v50 h_v50 => ?_)
          refine tk_put (ci := 2) (v := .int v50) (ty := .int) (C := RX2) (T := TX2) (N := 20) (sp := (0, 0, 8, 0)) hx hb htl inX2 tyX2 tyX2_ok nmX2 hown hK hG hS ht_a0 (by decide) tk_no rfl 0 (by decide) (htl _ mw_257) (fun _ h9 => h9) rfl (tyX2_ok 0 (by decide)) rfl rfl rfl (tk_V0 (by omega) (by omega)) (fun _ h => h) (tk_w.of ht_a0 (by decide) (List.mem_of_getElem? (i := 3) rfl) (Nat.le_refl _) (Nat.le_refl _)) dX2_addSinger_114 (fun H locs hG hS hf51 hq9 hj9 => ?_)
          have hj0_1 := hj9 4 _ (by decide) (by decide) hj0_1
          have hj0_2 := hj9 7 _ (by decide) (by decide) hj0_2
          have hj0_3 := hj9 11 _ (by decide) (by decide) hj0_3
          have hj0_5 := hj0_5.kept (hq9 _ (tk_ne ht_ld80 ht_a0 (Or.inl (by decide))))
          have hj0_6 := hj0_6.kept (hq9 _ (tk_ne ht_ld90 ht_a0 (Or.inl (by decide))))
          have hj0_7 := hj0_7.kept (hq9 _ (tk_ne ht_ld100 ht_a0 (Or.inl (by decide))))
          have hj0_8 := hj0_8.kept (hq9 _ (tk_ne ht_ld110 ht_a0 (Or.inl (by decide))))
          have hj0_9 := hj0_9.kept (hq9 _ (tk_ne ht_ld120 ht_a0 (Or.inl (by decide))))
          have hj37 := hj37.kept (hq9 _ (tk_ne ht_ld70 ht_a0 (Or.inl (by decide))))
          refine lv_iload hx hb dX2_addSinger_117 (lv_at hl 0 rfl) ?_
          exact tk_iret (v := n0) hx hb hr rfl hlocks (show (p1.toInt ≤ (-1) → n0.toInt + 1 = 0) ∧ (1000 ≤ p1.toInt → n0.toInt + 1 = 0) ∧ (p2.toInt ≤ (-1) → n0.toInt + 1 = 0) ∧ (10 ≤ p2.toInt → n0.toInt + 1 = 0) ∧ (p3.toInt ≤ (-1) → n0.toInt + 1 = 0) ∧ (2 ≤ p3.toInt → n0.toInt + 1 = 0) ∧ (0 ≤ p1.toInt → p1.toInt ≤ 999 → 0 ≤ p2.toInt → p2.toInt ≤ 9 → 0 ≤ p3.toInt → p3.toInt ≤ 1 → 8 ≤ n0.toInt → n0.toInt + 5 = 0) ∧ (0 ≤ p1.toInt → p1.toInt ≤ 999 → 0 ≤ p2.toInt → p2.toInt ≤ 9 → 0 ≤ p3.toInt → p3.toInt ≤ 1 → n0.toInt ≤ 7 → (-1) * n0.toInt + n0.toInt = 0) ∧ (0 ≤ n0.toInt → 0 ≤ p1.toInt ∧ p1.toInt ≤ 999 ∧ 0 ≤ p2.toInt ∧ p2.toInt ≤ 9 ∧ 0 ≤ p3.toInt ∧ p3.toInt ≤ 1 ∧ n0.toInt ≤ 7) ∧ (∃ n0x : Int32, jC D ld a0 0 n0x n1 n2 n3 (cif n0 (upd fh n0.toInt.toNat 0) fh) fs fk q1 q2 q3 H ∧ (0 ≤ n0.toInt → (-1) * n0.toInt + n0x.toInt + (-1) = 0) ∧ (n0.toInt ≤ (-1) → (-1) * n0.toInt + n0x.toInt = 0)) from ⟨(fun _ => by omega), (fun _ => by omega), (fun _ => by omega), (fun _ => by omega), (fun _ => by omega), (fun _ => by omega), (fun _ _ _ _ _ _ _ => by omega), (fun _ _ _ _ _ _ _ => by omega), (fun _ => ⟨by omega, by omega, by omega, by omega, by omega, by omega, by omega⟩), ⟨v50, ⟨hf51, hj0_1, hj0_2, hj0_3, (hj37.cg (cif_t (by omega)).symm), hj0_5, hj0_6, hj0_7, hj0_8, hj0_9⟩, (fun _ => by omega), (fun _ => by omega)⟩⟩) hG hS dX2_addSinger_119
        · have hc28 : ¬ (n0.toInt < 8) := fun h9 => c9 ((fi_lt rfl (show (8 : Int32).toInt = 8 by decide)).mpr h9)
          refine lv_bipush (v := (-5)) hx hb dX2_addSinger_41 (by decide) ?_
          have hk_m5 : ((-5) : Int32).toInt = (-5) := by decide
          exact tk_iret (v := (-5)) hx hb hr rfl hlocks (show (p1.toInt ≤ (-1) → ((-5) : Int32).toInt + 1 = 0) ∧ (1000 ≤ p1.toInt → ((-5) : Int32).toInt + 1 = 0) ∧ (p2.toInt ≤ (-1) → ((-5) : Int32).toInt + 1 = 0) ∧ (10 ≤ p2.toInt → ((-5) : Int32).toInt + 1 = 0) ∧ (p3.toInt ≤ (-1) → ((-5) : Int32).toInt + 1 = 0) ∧ (2 ≤ p3.toInt → ((-5) : Int32).toInt + 1 = 0) ∧ (0 ≤ p1.toInt → p1.toInt ≤ 999 → 0 ≤ p2.toInt → p2.toInt ≤ 9 → 0 ≤ p3.toInt → p3.toInt ≤ 1 → 8 ≤ n0.toInt → ((-5) : Int32).toInt + 5 = 0) ∧ (0 ≤ p1.toInt → p1.toInt ≤ 999 → 0 ≤ p2.toInt → p2.toInt ≤ 9 → 0 ≤ p3.toInt → p3.toInt ≤ 1 → n0.toInt ≤ 7 → (-1) * n0.toInt + ((-5) : Int32).toInt = 0) ∧ (0 ≤ ((-5) : Int32).toInt → 0 ≤ p1.toInt ∧ p1.toInt ≤ 999 ∧ 0 ≤ p2.toInt ∧ p2.toInt ≤ 9 ∧ 0 ≤ p3.toInt ∧ p3.toInt ≤ 1 ∧ n0.toInt ≤ 7) ∧ (∃ n0x : Int32, jC D ld a0 0 n0x n1 n2 n3 (cif ((-5) : Int32) (upd fh n0.toInt.toNat 0) fh) fs fk q1 q2 q3 H ∧ (0 ≤ ((-5) : Int32).toInt → (-1) * n0.toInt + n0x.toInt + (-1) = 0) ∧ (((-5) : Int32).toInt ≤ (-1) → (-1) * n0.toInt + n0x.toInt = 0)) from ⟨(fun _ => by omega), (fun _ => by omega), (fun _ => by omega), (fun _ => by omega), (fun _ => by omega), (fun _ => by omega), (fun _ _ _ _ _ _ _ => by omega), (fun _ _ _ _ _ _ _ => by omega), (fun _ => ⟨by omega, by omega, by omega, by omega, by omega, by omega, by omega⟩), ⟨n0, ⟨hj0_0, hj0_1, hj0_2, hj0_3, (hj0_4.cg (cif_f (by omega)).symm), hj0_5, hj0_6, hj0_7, hj0_8, hj0_9⟩, (fun _ => by omega), (fun _ => by omega)⟩⟩) hG hS dX2_addSinger_43
      · have hc27 : v19.toInt = 0 := (fi_eq rfl (show (0 : Int32).toInt = 0 by decide)).mp c9
        refine lv_iconst (v := (-1)) hx hb dX2_addSinger_30 (by decide) ?_
        have hk_m1 : ((-1) : Int32).toInt = (-1) := by decide
        exact tk_iret (v := (-1)) hx hb hr rfl hlocks (show (p1.toInt ≤ (-1) → ((-1) : Int32).toInt + 1 = 0) ∧ (1000 ≤ p1.toInt → ((-1) : Int32).toInt + 1 = 0) ∧ (p2.toInt ≤ (-1) → ((-1) : Int32).toInt + 1 = 0) ∧ (10 ≤ p2.toInt → ((-1) : Int32).toInt + 1 = 0) ∧ (p3.toInt ≤ (-1) → ((-1) : Int32).toInt + 1 = 0) ∧ (2 ≤ p3.toInt → ((-1) : Int32).toInt + 1 = 0) ∧ (0 ≤ p1.toInt → p1.toInt ≤ 999 → 0 ≤ p2.toInt → p2.toInt ≤ 9 → 0 ≤ p3.toInt → p3.toInt ≤ 1 → 8 ≤ n0.toInt → ((-1) : Int32).toInt + 5 = 0) ∧ (0 ≤ p1.toInt → p1.toInt ≤ 999 → 0 ≤ p2.toInt → p2.toInt ≤ 9 → 0 ≤ p3.toInt → p3.toInt ≤ 1 → n0.toInt ≤ 7 → (-1) * n0.toInt + ((-1) : Int32).toInt = 0) ∧ (0 ≤ ((-1) : Int32).toInt → 0 ≤ p1.toInt ∧ p1.toInt ≤ 999 ∧ 0 ≤ p2.toInt ∧ p2.toInt ≤ 9 ∧ 0 ≤ p3.toInt ∧ p3.toInt ≤ 1 ∧ n0.toInt ≤ 7) ∧ (∃ n0x : Int32, jC D ld a0 0 n0x n1 n2 n3 (cif ((-1) : Int32) (upd fh n0.toInt.toNat 0) fh) fs fk q1 q2 q3 H ∧ (0 ≤ ((-1) : Int32).toInt → (-1) * n0.toInt + n0x.toInt + (-1) = 0) ∧ (((-1) : Int32).toInt ≤ (-1) → (-1) * n0.toInt + n0x.toInt = 0)) from ⟨(fun _ => by omega), (fun _ => by omega), (fun _ => by omega), (fun _ => by omega), (fun _ => by omega), (fun _ => by omega), (fun _ _ _ _ _ _ _ => by omega), (fun _ _ _ _ _ _ _ => by omega), (fun _ => ⟨by omega, by omega, by omega, by omega, by omega, by omega, by omega⟩), ⟨n0, ⟨hj0_0, hj0_1, hj0_2, hj0_3, (hj0_4.cg (cif_f (by omega)).symm), hj0_5, hj0_6, hj0_7, hj0_8, hj0_9⟩, (fun _ => by omega), (fun _ => by omega)⟩⟩) hG hS dX2_addSinger_31
set_option maxHeartbeats 4000000 in
set_option maxRecDepth 100000 in
theorem k_X12_singer_x (l : Launch) (D : va_G) (cy : Nat → ClassId) (ld : Nat → Nat) (t : tk_T) (a0 : Nat) (p1 : Int32) (p2 : Int32) (p3 : Int32) (g0 : Int32) (g15 : Int32) (n0 n1 n2 n3 : Int32) (fh fs fk q1 q2 q3 : Nat → Int32) (ht_a0 : t a0 = (13, 0, 0)) (ht_ld20 : t (ld 20) = (3, 0, 0)) (ht_ld70 : t (ld 70) = (32, 8, 0)) (ht_ld80 : t (ld 80) = (33, 10, 0)) (ht_ld90 : t (ld 90) = (34, 10, 0)) (ht_ld100 : t (ld 100) = (35, 10, 0)) (ht_ld110 : t (ld 110) = (36, 10, 0)) (ht_ld120 : t (ld 120) = (37, 10, 0)) (hp_0 : 0 ≤ n0.toInt) (hp_1 : n0.toInt ≤ 8) (hp_2 : 0 ≤ n1.toInt) (hp_3 : n1.toInt ≤ 10) (hp_4 : 0 ≤ n2.toInt) (hp_5 : n2.toInt ≤ 10) (hp_6 : 0 ≤ n3.toInt) (hp_7 : n3.toInt ≤ 8) (hp_8 : 0 ≤ g0.toInt) (hp_9 : g0.toInt ≤ 400) (hp_10 : (-2147483648) ≤ g15.toInt) (hp_11 : g15.toInt ≤ 2147483647) : Met l yX12_singer (wl yX12_singer cX12_singer 5 (some .int)) ({ frames := 6, cells := 0, slots := 0, locals := 350 }) (tp D cy ld t [] [.ref a0, .int p1, .int p2, .int p3] (fun H => tk_f D H a0 12 13 (.int g0) ∧ tk_f D H a0 12 15 (.int g15) ∧ jC D ld (ld 20) 0 n0 n1 n2 n3 fh fs fk q1 q2 q3 H)) (ti D cy ld t [] (fun r H => (p1.toInt ≤ (-1) → r.toInt + 1 = 0) ∧ (1000 ≤ p1.toInt → r.toInt + 1 = 0) ∧ (p2.toInt ≤ (-1) → r.toInt + 1 = 0) ∧ (10 ≤ p2.toInt → r.toInt + 1 = 0) ∧ (p3.toInt ≤ (-1) → r.toInt + 1 = 0) ∧ (2 ≤ p3.toInt → r.toInt + 1 = 0) ∧ (0 ≤ p1.toInt → p1.toInt ≤ 999 → 0 ≤ p2.toInt → p2.toInt ≤ 9 → 0 ≤ p3.toInt → p3.toInt ≤ 1 → 8 ≤ n0.toInt → r.toInt + 5 = 0) ∧ (0 ≤ p1.toInt → p1.toInt ≤ 999 → 0 ≤ p2.toInt → p2.toInt ≤ 9 → 0 ≤ p3.toInt → p3.toInt ≤ 1 → n0.toInt ≤ 7 → (-1) * n0.toInt + r.toInt = 0) ∧ (0 ≤ r.toInt → 0 ≤ p1.toInt ∧ p1.toInt ≤ 999 ∧ 0 ≤ p2.toInt ∧ p2.toInt ≤ 9 ∧ 0 ≤ p3.toInt ∧ p3.toInt ≤ 1 ∧ n0.toInt ≤ 7) ∧ tk_f D H a0 12 13 (.int g0) ∧ tk_f D H a0 12 15 (.int g15) ∧ (∃ n0x : Int32, jC D ld (ld 20) 0 n0x n1 n2 n3 (cif r (upd fh n0.toInt.toNat 0) fh) fs fk q1 q2 q3 H ∧ (0 ≤ r.toInt → (-1) * n0.toInt + n0x.toInt + (-1) = 0) ∧ (r.toInt ≤ (-1) → (-1) * n0.toInt + n0x.toInt = 0))) (tk_w t [(20, 0, 0), (21, 0, 0), (32, 0, 0), (3, 0, 0), (13, 0, 0), (2, 0, 0)])) 0 0 (tk_w t [(20, 0, 0), (21, 0, 0), (32, 0, 0), (3, 0, 0), (13, 0, 0), (2, 0, 0)]) := by
  refine tk_met (y := yX12_singer) (cc := cX12_singer) (maxL := 5) (ret := (some .int)) (av := [.ref a0, .int p1, .int p2, .int p3]) _ _ (by decide) (Nat.le_of_ble_eq_true rfl) ?_
  intro p e s m args below meth c hx hb hr hml hts htl hown hlocks hK H locs hH hG hS hB hZ ls hl
  have hown : s.vm.findClass RX12 = some m.cls := hown
  have hl : lv_has ls 5 [(0, .ref a0), (1, .int p1), (2, .int p2), (3, .int p3)] := hl
  obtain ⟨hg_0, hg_1, ⟨hj0_0, hj0_1, hj0_2, hj0_3, hj0_4, hj0_5, hj0_6, hj0_7, hj0_8, hj0_9⟩⟩ := hB
  have hr_p1 := tk_rng p1
  have hr_p2 := tk_rng p2
  have hr_p3 := tk_rng p3
  refine lv_aload_n hx hb dX12_singer_0 rfl (lv_at hl 0 rfl) ?_
  refine tk_get (ci := 12) (C := RX12) (T := TX12) (N := 17) (sp := (8, 20, 3, 0)) hx hb htl inX12 hown hK hG ht_a0 (by decide) tk_no rfl 0 (by decide) (htl _ mw_15) (fun _ h9 => h9) rfl dX12_singer_1 (fun v9 hf1 hV9 => ?_)
  obtain ⟨rfl, ht_ld20⟩ := hV9
  have ht_ld20 : t (ld 20) = (3, 0, 0) := ht_ld20
  refine fx_top (v := .ref (ld 20)) rfl ?_
  refine lv_iload_n hx hb dX12_singer_4 rfl (lv_at hl 1 rfl) ?_
  refine lv_iload_n hx hb dX12_singer_5 rfl (lv_at hl 2 rfl) ?_
  refine lv_iload_n hx hb dX12_singer_6 rfl (lv_at hl 3 rfl) ?_
  refine tk_Vi (As := [.int p1, .int p2, .int p3]) (rest := []) (ci := 2) ⟨hx, hb, hml, hown, hts⟩ hK hG hZ hS (k_X2_addSinger_x l D cy ld t (ld 20) p1 p2 p3 n0 n1 n2 n3 fh fs fk q1 q2 q3 ht_ld20 ht_ld70 ht_ld80 ht_ld90 ht_ld100 ht_ld110 ht_ld120 (by omega) (by omega) (by omega) (by omega) (by omega) (by omega) (by omega) (by omega)) ⟨hj0_0, hj0_1, hj0_2, hj0_3, hj0_4, hj0_5, hj0_6, hj0_7, hj0_8, hj0_9⟩ ⟨callB_of 3 hts (wl_in mw_256) rfl rfl rfl (htl _ mw_14) (htl _ mw_253) hd_yX2_addSinger ⟨(Nat.le_of_ble_eq_true rfl), (Nat.le_of_ble_eq_true rfl)⟩, htl _ mw_254, htl _ mw_255⟩ ht_ld20 (by decide) tk_no rfl (tk_w.pick [0, 1, 2, 3] rfl) rfl hl.1 rfl (Nat.le_of_ble_eq_true rfl) dX12_singer_7 ⟨(Nat.le_of_ble_eq_true rfl), (Nat.le_of_ble_eq_true rfl)⟩ (fun v2 H locs hpo hG hS hq9 => ?_)
  have hg_0 := hg_0.call hq9 (tk_w.no ht_a0 (by decide))
  have hg_1 := hg_1.call hq9 (tk_w.no ht_a0 (by decide))
  have hj0_5 := hj0_5.call hq9 (tk_w.no ht_ld80 (by decide))
  have hj0_6 := hj0_6.call hq9 (tk_w.no ht_ld90 (by decide))
  have hj0_7 := hj0_7.call hq9 (tk_w.no ht_ld100 (by decide))
  have hj0_8 := hj0_8.call hq9 (tk_w.no ht_ld110 (by decide))
  have hj0_9 := hj0_9.call hq9 (tk_w.no ht_ld120 (by decide))
  obtain ⟨hpo4, hpo5, hpo6, hpo7, hpo8, hpo9, hpo10, hpo11, hpo12, ⟨v14, ⟨hj13, hj15, hj16, hj17, hj18, hj19, hj20, hj21, hj22, hj23⟩, hpo24, hpo25⟩⟩ := hpo
  have hq_v14 := tk_rng v14
  refine lv_istore (lv' := [(4, .int v2), (0, .ref a0), (1, .int p1), (2, .int p2), (3, .int p3)]) hx hb dX12_singer_10 hl (by decide) rfl (fun ls hl => ?_)
  refine lv_iload hx hb dX12_singer_12 (lv_at hl 0 rfl) ?_
  refine lv_if_lt (tgt := 24) hx hb dX12_singer_14 (by decide) (fun c9 => ?_) (fun c9 => ?_)
  · have hc26 : v2.toInt < 0 := (fi_lt rfl (show (0 : Int32).toInt = 0 by decide)).mp c9
    refine lv_aload_n hx hb dX12_singer_24 rfl (lv_at hl 1 rfl) ?_
    refine lv_iload hx hb dX12_singer_25 (lv_at hl 0 rfl) ?_
    refine tk_Vi (As := [.int v2]) (rest := []) (ci := 12) ⟨hx, hb, hml, hown, hts⟩ hK hG hZ hS (k_X12_tell_x l D cy ld t a0 v2 g0 g15 ht_a0 (by omega) (by omega) (by omega) (by omega)) ⟨hg_0, hg_1⟩ ⟨callB_of 1 hts (wl_in mw_271) rfl rfl rfl (htl _ mw_2) (htl _ mw_268) hd_yX12_tell ⟨(Nat.le_of_ble_eq_true rfl), (Nat.le_of_ble_eq_true rfl)⟩, htl _ mw_269, htl _ mw_270⟩ ht_a0 (by decide) tk_no rfl (tk_w.pick [4, 0] rfl) rfl hl.1 rfl (Nat.le_of_ble_eq_true rfl) dX12_singer_27 ⟨(Nat.le_of_ble_eq_true rfl), (Nat.le_of_ble_eq_true rfl)⟩ (fun v27 H locs hpo hG hS hq9 => ?_)
    have hj19 := hj19.call hq9 (tk_w.no ht_ld80 (by decide))
    have hj20 := hj20.call hq9 (tk_w.no ht_ld90 (by decide))
    have hj21 := hj21.call hq9 (tk_w.no ht_ld100 (by decide))
    have hj22 := hj22.call hq9 (tk_w.no ht_ld110 (by decide))
    have hj23 := hj23.call hq9 (tk_w.no ht_ld120 (by decide))
    have hj13 := hj13.call hq9 (tk_w.no ht_ld20 (by decide))
    have hj15 := hj15.call hq9 (tk_w.no ht_ld20 (by decide))
    have hj16 := hj16.call hq9 (tk_w.no ht_ld20 (by decide))
    have hj17 := hj17.call hq9 (tk_w.no ht_ld20 (by decide))
    have hj18 := hj18.call hq9 (tk_w.no ht_ld70 (by decide))
    obtain ⟨hpo29, hf30, hf31⟩ := hpo
    exact tk_iret (v := v27) hx hb hr rfl hlocks (show (p1.toInt ≤ (-1) → v27.toInt + 1 = 0) ∧ (1000 ≤ p1.toInt → v27.toInt + 1 = 0) ∧ (p2.toInt ≤ (-1) → v27.toInt + 1 = 0) ∧ (10 ≤ p2.toInt → v27.toInt + 1 = 0) ∧ (p3.toInt ≤ (-1) → v27.toInt + 1 = 0) ∧ (2 ≤ p3.toInt → v27.toInt + 1 = 0) ∧ (0 ≤ p1.toInt → p1.toInt ≤ 999 → 0 ≤ p2.toInt → p2.toInt ≤ 9 → 0 ≤ p3.toInt → p3.toInt ≤ 1 → 8 ≤ n0.toInt → v27.toInt + 5 = 0) ∧ (0 ≤ p1.toInt → p1.toInt ≤ 999 → 0 ≤ p2.toInt → p2.toInt ≤ 9 → 0 ≤ p3.toInt → p3.toInt ≤ 1 → n0.toInt ≤ 7 → (-1) * n0.toInt + v27.toInt = 0) ∧ (0 ≤ v27.toInt → 0 ≤ p1.toInt ∧ p1.toInt ≤ 999 ∧ 0 ≤ p2.toInt ∧ p2.toInt ≤ 9 ∧ 0 ≤ p3.toInt ∧ p3.toInt ≤ 1 ∧ n0.toInt ≤ 7) ∧ tk_f D H a0 12 13 (.int g0) ∧ tk_f D H a0 12 15 (.int g15) ∧ (∃ n0x : Int32, jC D ld (ld 20) 0 n0x n1 n2 n3 (cif v27 (upd fh n0.toInt.toNat 0) fh) fs fk q1 q2 q3 H ∧ (0 ≤ v27.toInt → (-1) * n0.toInt + n0x.toInt + (-1) = 0) ∧ (v27.toInt ≤ (-1) → (-1) * n0.toInt + n0x.toInt = 0)) from ⟨(fun _ => by omega), (fun _ => by omega), (fun _ => by omega), (fun _ => by omega), (fun _ => by omega), (fun _ => by omega), (fun _ _ _ _ _ _ _ => by omega), (fun _ _ _ _ _ _ _ => by omega), (fun _ => ⟨by omega, by omega, by omega, by omega, by omega, by omega, by omega⟩), hf30, hf31, ⟨v14, ⟨hj13, hj15, hj16, hj17, (hj18.cg (congrArg (fun z => cif z _ _) ((fi_eq rfl rfl).mpr (by omega)))), hj19, hj20, hj21, hj22, hj23⟩, (fun _ => by omega), (fun _ => by omega)⟩⟩) hG hS dX12_singer_30
  · have hc26 : ¬ (v2.toInt < 0) := fun h9 => c9 ((fi_lt rfl (show (0 : Int32).toInt = 0 by decide)).mpr h9)
    refine lv_aload_n hx hb dX12_singer_17 rfl (lv_at hl 1 rfl) ?_
    refine tk_get (ci := 12) (C := RX12) (T := TX12) (N := 17) (sp := (6, 2, 0, 0)) hx hb htl inX12 hown hK hG ht_a0 (by decide) tk_no rfl 4 (by decide) (htl _ mw_26) (fun _ h9 => h9) rfl dX12_singer_18 (fun v9 hf32 hV9 => ?_)
    obtain ⟨b33, rfl, ht_b33⟩ := hV9
    have ht_b33 : t b33 = (2, 0, 0) := ht_b33
    refine tk_Vv (As := []) (rest := []) (ci := 1) ⟨hx, hb, hml, hown, hts⟩ hK hG hZ hS (k_X1_clearUndone l D cy ld t b33 ht_b33) trivial ⟨callB_of 0 hts (wl_in mw_266) rfl rfl rfl (htl _ mw_25) (htl _ mw_263) hd_yX1_clearUndone ⟨(Nat.le_of_ble_eq_true rfl), (Nat.le_of_ble_eq_true rfl)⟩, htl _ mw_264, htl _ mw_265⟩ ht_b33 (by decide) tk_no rfl (tk_w.pick [5] rfl) rfl hl.1 rfl (Nat.le_of_ble_eq_true rfl) dX12_singer_21 ⟨(Nat.le_of_ble_eq_true rfl), (Nat.le_of_ble_eq_true rfl)⟩ (fun H locs hpo hG hS hq9 => ?_)
    have hg_0 := hg_0.call hq9 (tk_w.no ht_a0 (by decide))
    have hg_1 := hg_1.call hq9 (tk_w.no ht_a0 (by decide))
    have hj19 := hj19.call hq9 (tk_w.no ht_ld80 (by decide))
    have hj20 := hj20.call hq9 (tk_w.no ht_ld90 (by decide))
    have hj21 := hj21.call hq9 (tk_w.no ht_ld100 (by decide))
    have hj22 := hj22.call hq9 (tk_w.no ht_ld110 (by decide))
    have hj23 := hj23.call hq9 (tk_w.no ht_ld120 (by decide))
    have hj13 := hj13.call hq9 (tk_w.no ht_ld20 (by decide))
    have hj15 := hj15.call hq9 (tk_w.no ht_ld20 (by decide))
    have hj16 := hj16.call hq9 (tk_w.no ht_ld20 (by decide))
    have hj17 := hj17.call hq9 (tk_w.no ht_ld20 (by decide))
    have hj18 := hj18.call hq9 (tk_w.no ht_ld70 (by decide))
    refine lv_aload_n hx hb dX12_singer_24 rfl (lv_at hl 1 rfl) ?_
    refine lv_iload hx hb dX12_singer_25 (lv_at hl 0 rfl) ?_
    refine tk_Vi (As := [.int v2]) (rest := []) (ci := 12) ⟨hx, hb, hml, hown, hts⟩ hK hG hZ hS (k_X12_tell_x l D cy ld t a0 v2 g0 g15 ht_a0 (by omega) (by omega) (by omega) (by omega)) ⟨hg_0, hg_1⟩ ⟨callB_of 1 hts (wl_in mw_271) rfl rfl rfl (htl _ mw_2) (htl _ mw_268) hd_yX12_tell ⟨(Nat.le_of_ble_eq_true rfl), (Nat.le_of_ble_eq_true rfl)⟩, htl _ mw_269, htl _ mw_270⟩ ht_a0 (by decide) tk_no rfl (tk_w.pick [4, 0] rfl) rfl hl.1 rfl (Nat.le_of_ble_eq_true rfl) dX12_singer_27 ⟨(Nat.le_of_ble_eq_true rfl), (Nat.le_of_ble_eq_true rfl)⟩ (fun v35 H locs hpo hG hS hq9 => ?_)
    have hj19 := hj19.call hq9 (tk_w.no ht_ld80 (by decide))
    have hj20 := hj20.call hq9 (tk_w.no ht_ld90 (by decide))
    have hj21 := hj21.call hq9 (tk_w.no ht_ld100 (by decide))
    have hj22 := hj22.call hq9 (tk_w.no ht_ld110 (by decide))
    have hj23 := hj23.call hq9 (tk_w.no ht_ld120 (by decide))
    have hj13 := hj13.call hq9 (tk_w.no ht_ld20 (by decide))
    have hj15 := hj15.call hq9 (tk_w.no ht_ld20 (by decide))
    have hj16 := hj16.call hq9 (tk_w.no ht_ld20 (by decide))
    have hj17 := hj17.call hq9 (tk_w.no ht_ld20 (by decide))
    have hj18 := hj18.call hq9 (tk_w.no ht_ld70 (by decide))
    obtain ⟨hpo37, hf38, hf39⟩ := hpo
    exact tk_iret (v := v35) hx hb hr rfl hlocks (show (p1.toInt ≤ (-1) → v35.toInt + 1 = 0) ∧ (1000 ≤ p1.toInt → v35.toInt + 1 = 0) ∧ (p2.toInt ≤ (-1) → v35.toInt + 1 = 0) ∧ (10 ≤ p2.toInt → v35.toInt + 1 = 0) ∧ (p3.toInt ≤ (-1) → v35.toInt + 1 = 0) ∧ (2 ≤ p3.toInt → v35.toInt + 1 = 0) ∧ (0 ≤ p1.toInt → p1.toInt ≤ 999 → 0 ≤ p2.toInt → p2.toInt ≤ 9 → 0 ≤ p3.toInt → p3.toInt ≤ 1 → 8 ≤ n0.toInt → v35.toInt + 5 = 0) ∧ (0 ≤ p1.toInt → p1.toInt ≤ 999 → 0 ≤ p2.toInt → p2.toInt ≤ 9 → 0 ≤ p3.toInt → p3.toInt ≤ 1 → n0.toInt ≤ 7 → (-1) * n0.toInt + v35.toInt = 0) ∧ (0 ≤ v35.toInt → 0 ≤ p1.toInt ∧ p1.toInt ≤ 999 ∧ 0 ≤ p2.toInt ∧ p2.toInt ≤ 9 ∧ 0 ≤ p3.toInt ∧ p3.toInt ≤ 1 ∧ n0.toInt ≤ 7) ∧ tk_f D H a0 12 13 (.int g0) ∧ tk_f D H a0 12 15 (.int g15) ∧ (∃ n0x : Int32, jC D ld (ld 20) 0 n0x n1 n2 n3 (cif v35 (upd fh n0.toInt.toNat 0) fh) fs fk q1 q2 q3 H ∧ (0 ≤ v35.toInt → (-1) * n0.toInt + n0x.toInt + (-1) = 0) ∧ (v35.toInt ≤ (-1) → (-1) * n0.toInt + n0x.toInt = 0)) from ⟨(fun _ => by omega), (fun _ => by omega), (fun _ => by omega), (fun _ => by omega), (fun _ => by omega), (fun _ => by omega), (fun _ _ _ _ _ _ _ => by omega), (fun _ _ _ _ _ _ _ => by omega), (fun _ => ⟨by omega, by omega, by omega, by omega, by omega, by omega, by omega⟩), hf38, hf39, ⟨v14, ⟨hj13, hj15, hj16, hj17, (hj18.cg (congrArg (fun z => cif z _ _) ((fi_eq rfl rfl).mpr (by omega)))), hj19, hj20, hj21, hj22, hj23⟩, (fun _ => by omega), (fun _ => by omega)⟩⟩) hG hS dX12_singer_30
set_option maxHeartbeats 4000000 in
set_option maxRecDepth 100000 in
theorem k_X2_addVerse_x (l : Launch) (D : va_G) (cy : Nat → ClassId) (ld : Nat → Nat) (t : tk_T) (a0 : Nat) (p1 : Int32) (p2 : Int32) (n0 n1 n2 n3 : Int32) (fh fs fk q1 q2 q3 : Nat → Int32) (ht_a0 : t a0 = (3, 0, 0)) (ht_ld70 : t (ld 70) = (32, 8, 0)) (ht_ld80 : t (ld 80) = (33, 10, 0)) (ht_ld90 : t (ld 90) = (34, 10, 0)) (ht_ld100 : t (ld 100) = (35, 10, 0)) (ht_ld110 : t (ld 110) = (36, 10, 0)) (ht_ld120 : t (ld 120) = (37, 10, 0)) (hp_0 : 0 ≤ n0.toInt) (hp_1 : n0.toInt ≤ 8) (hp_2 : 0 ≤ n1.toInt) (hp_3 : n1.toInt ≤ 10) (hp_4 : 0 ≤ n2.toInt) (hp_5 : n2.toInt ≤ 10) (hp_6 : 0 ≤ n3.toInt) (hp_7 : n3.toInt ≤ 8) : Met l yX2_addVerse (wl yX2_addVerse cX2_addVerse 3 (some .int)) ({ frames := 4, cells := 0, slots := 0, locals := 210 }) (tp D cy ld t [] [.ref a0, .int p1, .int p2] (fun H => jC D ld a0 0 n0 n1 n2 n3 fh fs fk q1 q2 q3 H)) (ti D cy ld t [] (fun r H => (p1.toInt ≤ 0 → r.toInt + 1 = 0) ∧ (100 ≤ p1.toInt → r.toInt + 1 = 0) ∧ (p2.toInt ≤ (-1) → r.toInt + 1 = 0) ∧ (5 ≤ p2.toInt → r.toInt + 1 = 0) ∧ (1 ≤ p1.toInt → p1.toInt ≤ 99 → 0 ≤ p2.toInt → p2.toInt ≤ 4 → 10 ≤ n1.toInt → r.toInt + 5 = 0) ∧ (1 ≤ p1.toInt → p1.toInt ≤ 99 → 0 ≤ p2.toInt → p2.toInt ≤ 4 → n1.toInt ≤ 9 → (-1) * n1.toInt + r.toInt = 0) ∧ (0 ≤ r.toInt → 1 ≤ p1.toInt ∧ p1.toInt ≤ 99 ∧ 0 ≤ p2.toInt ∧ p2.toInt ≤ 4 ∧ n1.toInt ≤ 9) ∧ (∃ n1x : Int32, jC D ld a0 0 n0 n1x n2 n3 fh (cif r (upd fs n1.toInt.toNat p1) fs) (cif r (upd fk n1.toInt.toNat p2) fk) q1 q2 q3 H ∧ (0 ≤ r.toInt → (-1) * n1.toInt + n1x.toInt + (-1) = 0) ∧ (r.toInt ≤ (-1) → (-1) * n1.toInt + n1x.toInt = 0))) (tk_w t [(33, 0, 0), (34, 0, 0), (3, 0, 0)])) 0 0 (tk_w t [(33, 0, 0), (34, 0, 0), (3, 0, 0)]) := by
  refine tk_met (y := yX2_addVerse) (cc := cX2_addVerse) (maxL := 3) (ret := (some .int)) (av := [.ref a0, .int p1, .int p2]) _ _ (by decide) (Nat.le_of_ble_eq_true rfl) ?_
  intro p e s m args below meth c hx hb hr hml hts htl hown hlocks hK H locs hH hG hS hB hZ ls hl
  have hown : s.vm.findClass RX2 = some m.cls := hown
  have hl : lv_has ls 3 [(0, .ref a0), (1, .int p1), (2, .int p2)] := hl
  have ⟨hj0_0, hj0_1, hj0_2, hj0_3, hj0_4, hj0_5, hj0_6, hj0_7, hj0_8, hj0_9⟩ := hB
  have hr_p1 := tk_rng p1
  have hr_p2 := tk_rng p2
  refine lv_iload_n hx hb dX2_addVerse_0 rfl (lv_at hl 1 rfl) ?_
  refine lv_iconst (v := 1) hx hb dX2_addVerse_1 (by decide) ?_
  refine lv_bipush (v := 99) hx hb dX2_addVerse_2 (by decide) ?_
  have hk_1 : (1 : Int32).toInt = 1 := by decide
  have hk_99 : (99 : Int32).toInt = 99 := by decide
  refine tk_Ni (As := [.int p1, .int 1, .int 99]) (rest := []) ⟨hx, hb, hml, hown, hts⟩ hK hG hZ hS (k_X12_within_x l D cy ld t _ p1 1 99) trivial ⟨va_cnB 3 hts (wl_in mw_262) rfl rfl rfl hK.2.2.2.1.1 (htl _ mw_2) hd_yX12_within ⟨(Nat.le_of_ble_eq_true rfl), (Nat.le_of_ble_eq_true rfl)⟩, htl _ mw_261, trivial⟩ (tk_w.pick [] rfl) rfl hl.1 rfl (Nat.le_of_ble_eq_true rfl) dX2_addVerse_4 ⟨(Nat.le_of_ble_eq_true rfl), (Nat.le_of_ble_eq_true rfl)⟩ (fun v1 H locs hpo hG hS hq9 => ?_)
  have hj0_0 := hj0_0.call hq9 tk_w.nil
  have hj0_1 := hj0_1.call hq9 tk_w.nil
  have hj0_2 := hj0_2.call hq9 tk_w.nil
  have hj0_3 := hj0_3.call hq9 tk_w.nil
  have hj0_4 := hj0_4.call hq9 tk_w.nil
  have hj0_5 := hj0_5.call hq9 tk_w.nil
  have hj0_6 := hj0_6.call hq9 tk_w.nil
  have hj0_7 := hj0_7.call hq9 tk_w.nil
  have hj0_8 := hj0_8.call hq9 tk_w.nil
  have hj0_9 := hj0_9.call hq9 tk_w.nil
  obtain ⟨hpo3, hpo4, hpo5, hpo6, hpo7, hpo8⟩ := hpo
  refine lv_if_eq (tgt := 19) hx hb dX2_addVerse_7 (by decide) (fun c9 => ?_) (fun c9 => ?_)
  · have hc9 : v1.toInt = 0 := (fi_eq rfl (show (0 : Int32).toInt = 0 by decide)).mp c9
    refine lv_iconst (v := (-1)) hx hb dX2_addVerse_19 (by decide) ?_
    have hk_m1 : ((-1) : Int32).toInt = (-1) := by decide
    exact tk_iret (v := (-1)) hx hb hr rfl hlocks (show (p1.toInt ≤ 0 → ((-1) : Int32).toInt + 1 = 0) ∧ (100 ≤ p1.toInt → ((-1) : Int32).toInt + 1 = 0) ∧ (p2.toInt ≤ (-1) → ((-1) : Int32).toInt + 1 = 0) ∧ (5 ≤ p2.toInt → ((-1) : Int32).toInt + 1 = 0) ∧ (1 ≤ p1.toInt → p1.toInt ≤ 99 → 0 ≤ p2.toInt → p2.toInt ≤ 4 → 10 ≤ n1.toInt → ((-1) : Int32).toInt + 5 = 0) ∧ (1 ≤ p1.toInt → p1.toInt ≤ 99 → 0 ≤ p2.toInt → p2.toInt ≤ 4 → n1.toInt ≤ 9 → (-1) * n1.toInt + ((-1) : Int32).toInt = 0) ∧ (0 ≤ ((-1) : Int32).toInt → 1 ≤ p1.toInt ∧ p1.toInt ≤ 99 ∧ 0 ≤ p2.toInt ∧ p2.toInt ≤ 4 ∧ n1.toInt ≤ 9) ∧ (∃ n1x : Int32, jC D ld a0 0 n0 n1x n2 n3 fh (cif ((-1) : Int32) (upd fs n1.toInt.toNat p1) fs) (cif ((-1) : Int32) (upd fk n1.toInt.toNat p2) fk) q1 q2 q3 H ∧ (0 ≤ ((-1) : Int32).toInt → (-1) * n1.toInt + n1x.toInt + (-1) = 0) ∧ (((-1) : Int32).toInt ≤ (-1) → (-1) * n1.toInt + n1x.toInt = 0)) from ⟨(fun _ => by omega), (fun _ => by omega), (fun _ => by omega), (fun _ => by omega), (fun _ _ _ _ _ => by omega), (fun _ _ _ _ _ => by omega), (fun _ => ⟨by omega, by omega, by omega, by omega, by omega⟩), ⟨n1, ⟨hj0_0, hj0_1, hj0_2, hj0_3, hj0_4, (hj0_5.cg (cif_f (by omega)).symm), (hj0_6.cg (cif_f (by omega)).symm), hj0_7, hj0_8, hj0_9⟩, (fun _ => by omega), (fun _ => by omega)⟩⟩) hG hS dX2_addVerse_20
  · have hc9 : ¬ (v1.toInt = 0) := fun h9 => c9 ((fi_eq rfl (show (0 : Int32).toInt = 0 by decide)).mpr h9)
    refine lv_iload_n hx hb dX2_addVerse_10 rfl (lv_at hl 2 rfl) ?_
    refine lv_iconst (v := 0) hx hb dX2_addVerse_11 (by decide) ?_
    refine lv_iconst (v := 4) hx hb dX2_addVerse_12 (by decide) ?_
    have hk_0 : (0 : Int32).toInt = 0 := by decide
    have hk_4 : (4 : Int32).toInt = 4 := by decide
    refine tk_Ni (As := [.int p2, .int 0, .int 4]) (rest := []) ⟨hx, hb, hml, hown, hts⟩ hK hG hZ hS (k_X12_within_x l D cy ld t _ p2 0 4) trivial ⟨va_cnB 3 hts (wl_in mw_262) rfl rfl rfl hK.2.2.2.1.1 (htl _ mw_2) hd_yX12_within ⟨(Nat.le_of_ble_eq_true rfl), (Nat.le_of_ble_eq_true rfl)⟩, htl _ mw_261, trivial⟩ (tk_w.pick [] rfl) rfl hl.1 rfl (Nat.le_of_ble_eq_true rfl) dX2_addVerse_13 ⟨(Nat.le_of_ble_eq_true rfl), (Nat.le_of_ble_eq_true rfl)⟩ (fun v10 H locs hpo hG hS hq9 => ?_)
    have hj0_0 := hj0_0.call hq9 tk_w.nil
    have hj0_1 := hj0_1.call hq9 tk_w.nil
    have hj0_2 := hj0_2.call hq9 tk_w.nil
    have hj0_3 := hj0_3.call hq9 tk_w.nil
    have hj0_4 := hj0_4.call hq9 tk_w.nil
    have hj0_5 := hj0_5.call hq9 tk_w.nil
    have hj0_6 := hj0_6.call hq9 tk_w.nil
    have hj0_7 := hj0_7.call hq9 tk_w.nil
    have hj0_8 := hj0_8.call hq9 tk_w.nil
    have hj0_9 := hj0_9.call hq9 tk_w.nil
    obtain ⟨hpo12, hpo13, hpo14, hpo15, hpo16, hpo17⟩ := hpo
    refine lv_if_ne (tgt := 21) hx hb dX2_addVerse_16 (by decide) (fun c9 => ?_) (fun c9 => ?_)
    · have hc18 : ¬ (v10.toInt = 0) := fun h9 => c9 ((fi_eq rfl (show (0 : Int32).toInt = 0 by decide)).mpr h9)
      refine lv_aload_n hx hb dX2_addVerse_21 rfl (lv_at hl 0 rfl) ?_
      refine tk_getk (ci := 2) (C := RX2) (T := TX2) (N := 20) (sp := (0, 0, 10, 0)) hx hb htl inX2 hown hK hG ht_a0 (by decide) tk_no rfl 4 (by decide) (htl _ mw_333) (fun _ h9 => h9) rfl hj0_1 dX2_addVerse_22 ?_
      refine lv_bipush (v := 10) hx hb dX2_addVerse_25 (by decide) ?_
      refine lv_icmp_lt (tgt := 33) hx hb dX2_addVerse_27 (by decide) (fun c9 => ?_) (fun c9 => ?_)
      · have hc19 : n1.toInt < 10 := (fi_lt rfl (show (10 : Int32).toInt = 10 by decide)).mp c9
        refine lv_aload_n hx hb dX2_addVerse_33 rfl (lv_at hl 0 rfl) ?_
        refine tk_get (ci := 2) (C := RX2) (T := TX2) (N := 20) (sp := (11, 80, 33, 10)) hx hb htl inX2 hown hK hG ht_a0 (by decide) tk_no rfl 5 (by decide) (htl _ mw_63) (fun _ h9 => h9) rfl dX2_addVerse_34 (fun v9 hf20 hV9 => ?_)
        obtain ⟨rfl, ht_ld80⟩ := hV9
        have ht_ld80 : t (ld 80) = (33, 10, 0) := ht_ld80
        refine fx_top (v := .ref (ld 80)) rfl ?_
        refine lv_aload_n hx hb dX2_addVerse_37 rfl (lv_at hl 0 rfl) ?_
        refine tk_getk (ci := 2) (C := RX2) (T := TX2) (N := 20) (sp := (0, 0, 10, 0)) hx hb htl inX2 hown hK hG ht_a0 (by decide) tk_no rfl 4 (by decide) (htl _ mw_333) (fun _ h9 => h9) rfl hj0_1 dX2_addVerse_38 ?_
        refine lv_iload_n hx hb dX2_addVerse_41 rfl (lv_at hl 1 rfl) ?_
        refine tk_iastC hx hb hK hG hS ht_ld80 (by decide) (fun _ => Iff.rfl) tk_no rfl (by omega) (by omega) trivial (tk_w.of ht_ld80 (by decide) (List.mem_of_getElem? (i := 0) rfl) (Nat.le_refl _) (Nat.le_refl _)) dX2_addVerse_42 hj0_5 (fun H locs hG hS hq9 hj22 => ?_)
        have hj22 : tk_c H (ld 80) 10 (upd fs n1.toNatClampNeg p1) := hj22
        have hj0_0 := hj0_0.kept (hq9 _ (tk_ne ht_a0 ht_ld80 (Or.inl (by decide))))
        have hj0_1 := hj0_1.kept (hq9 _ (tk_ne ht_a0 ht_ld80 (Or.inl (by decide))))
        have hj0_2 := hj0_2.kept (hq9 _ (tk_ne ht_a0 ht_ld80 (Or.inl (by decide))))
        have hj0_3 := hj0_3.kept (hq9 _ (tk_ne ht_a0 ht_ld80 (Or.inl (by decide))))
        have hj0_4 := hj0_4.kept (hq9 _ (tk_ne ht_ld70 ht_ld80 (Or.inl (by decide))))
        have hj0_6 := hj0_6.kept (hq9 _ (tk_ne ht_ld90 ht_ld80 (Or.inl (by decide))))
        have hj0_7 := hj0_7.kept (hq9 _ (tk_ne ht_ld100 ht_ld80 (Or.inl (by decide))))
        have hj0_8 := hj0_8.kept (hq9 _ (tk_ne ht_ld110 ht_ld80 (Or.inl (by decide))))
        have hj0_9 := hj0_9.kept (hq9 _ (tk_ne ht_ld120 ht_ld80 (Or.inl (by decide))))
        refine lv_aload_n hx hb dX2_addVerse_43 rfl (lv_at hl 0 rfl) ?_
        refine tk_get (ci := 2) (C := RX2) (T := TX2) (N := 20) (sp := (11, 90, 34, 10)) hx hb htl inX2 hown hK hG ht_a0 (by decide) tk_no rfl 6 (by decide) (htl _ mw_64) (fun _ h9 => h9) rfl dX2_addVerse_44 (fun v9 hf23 hV9 => ?_)
        obtain ⟨rfl, ht_ld90⟩ := hV9
        have ht_ld90 : t (ld 90) = (34, 10, 0) := ht_ld90
        refine fx_top (v := .ref (ld 90)) rfl ?_
        refine lv_aload_n hx hb dX2_addVerse_47 rfl (lv_at hl 0 rfl) ?_
        refine tk_getk (ci := 2) (C := RX2) (T := TX2) (N := 20) (sp := (0, 0, 10, 0)) hx hb htl inX2 hown hK hG ht_a0 (by decide) tk_no rfl 4 (by decide) (htl _ mw_333) (fun _ h9 => h9) rfl hj0_1 dX2_addVerse_48 ?_
        refine lv_iload_n hx hb dX2_addVerse_51 rfl (lv_at hl 2 rfl) ?_
        refine tk_iastC hx hb hK hG hS ht_ld90 (by decide) (fun _ => Iff.rfl) tk_no rfl (by omega) (by omega) trivial (tk_w.of ht_ld90 (by decide) (List.mem_of_getElem? (i := 1) rfl) (Nat.le_refl _) (Nat.le_refl _)) dX2_addVerse_52 hj0_6 (fun H locs hG hS hq9 hj25 => ?_)
        have hj25 : tk_c H (ld 90) 10 (upd fk n1.toNatClampNeg p2) := hj25
        have hj0_0 := hj0_0.kept (hq9 _ (tk_ne ht_a0 ht_ld90 (Or.inl (by decide))))
        have hj0_1 := hj0_1.kept (hq9 _ (tk_ne ht_a0 ht_ld90 (Or.inl (by decide))))
        have hj0_2 := hj0_2.kept (hq9 _ (tk_ne ht_a0 ht_ld90 (Or.inl (by decide))))
        have hj0_3 := hj0_3.kept (hq9 _ (tk_ne ht_a0 ht_ld90 (Or.inl (by decide))))
        have hj0_4 := hj0_4.kept (hq9 _ (tk_ne ht_ld70 ht_ld90 (Or.inl (by decide))))
        have hj0_7 := hj0_7.kept (hq9 _ (tk_ne ht_ld100 ht_ld90 (Or.inl (by decide))))
        have hj0_8 := hj0_8.kept (hq9 _ (tk_ne ht_ld110 ht_ld90 (Or.inl (by decide))))
        have hj0_9 := hj0_9.kept (hq9 _ (tk_ne ht_ld120 ht_ld90 (Or.inl (by decide))))
        have hj22 := hj22.kept (hq9 _ (tk_ne ht_ld80 ht_ld90 (Or.inl (by decide))))
        refine lv_aload_n hx hb dX2_addVerse_53 rfl (lv_at hl 0 rfl) ?_
        refine lv_dup hx hb dX2_addVerse_54 rfl ?_
        refine tk_getk (ci := 2) (C := RX2) (T := TX2) (N := 20) (sp := (0, 0, 10, 0)) hx hb htl inX2 hown hK hG ht_a0 (by decide) tk_no rfl 4 (by decide) (htl _ mw_333) (fun _ h9 => h9) rfl hj0_1 dX2_addVerse_55 ?_
        refine lv_iconst (v := 1) hx hb dX2_addVerse_58 (by decide) ?_
        refine lv_iadd hx hb dX2_addVerse_59 ?_
        refine tk_add rfl (show (1 : Int32).toInt = 1 by decide) (by omega) (by omega) (fun v26 h_v26 => ?_)
        refine tk_put (ci := 2) (v := .int v26) (ty := .int) (C := RX2) (T := TX2) (N := 20) (sp := (0, 0, 10, 0)) hx hb htl inX2 tyX2 tyX2_ok nmX2 hown hK hG hS ht_a0 (by decide) tk_no rfl 4 (by decide) (htl _ mw_333) (fun _ h9 => h9) rfl (tyX2_ok 4 (by decide)) rfl rfl rfl (tk_V0 (by omega) (by omega)) (fun _ h => h) (tk_w.of ht_a0 (by decide) (List.mem_of_getElem? (i := 2) rfl) (Nat.le_refl _) (Nat.le_refl _)) dX2_addVerse_60 (fun H locs hG hS hf27 hq9 hj9 => ?_)
        have hj0_0 := hj9 0 _ (by decide) (by decide) hj0_0
        have hj0_2 := hj9 7 _ (by decide) (by decide) hj0_2
        have hj0_3 := hj9 11 _ (by decide) (by decide) hj0_3
        have hj0_4 := hj0_4.kept (hq9 _ (tk_ne ht_ld70 ht_a0 (Or.inl (by decide))))
        have hj0_7 := hj0_7.kept (hq9 _ (tk_ne ht_ld100 ht_a0 (Or.inl (by decide))))
        have hj0_8 := hj0_8.kept (hq9 _ (tk_ne ht_ld110 ht_a0 (Or.inl (by decide))))
        have hj0_9 := hj0_9.kept (hq9 _ (tk_ne ht_ld120 ht_a0 (Or.inl (by decide))))
        have hj22 := hj22.kept (hq9 _ (tk_ne ht_ld80 ht_a0 (Or.inl (by decide))))
        have hj25 := hj25.kept (hq9 _ (tk_ne ht_ld90 ht_a0 (Or.inl (by decide))))
        refine lv_aload_n hx hb dX2_addVerse_63 rfl (lv_at hl 0 rfl) ?_
        refine tk_getk (ci := 2) (C := RX2) (T := TX2) (N := 20) (sp := (0, 0, 10, 0)) hx hb htl inX2 hown hK hG ht_a0 (by decide) tk_no rfl 4 (by decide) (htl _ mw_333) (fun _ h9 => h9) rfl hf27 dX2_addVerse_64 ?_
        refine lv_iconst (v := 1) hx hb dX2_addVerse_67 (by decide) ?_
        refine lv_isub hx hb dX2_addVerse_68 ?_
        refine tk_sub rfl (show (1 : Int32).toInt = 1 by decide) (by omega) (by omega) (fun v29 h_v29 => ?_)
        exact tk_iret (v := v29) hx hb hr rfl hlocks (show (p1.toInt ≤ 0 → v29.toInt + 1 = 0) ∧ (100 ≤ p1.toInt → v29.toInt + 1 = 0) ∧ (p2.toInt ≤ (-1) → v29.toInt + 1 = 0) ∧ (5 ≤ p2.toInt → v29.toInt + 1 = 0) ∧ (1 ≤ p1.toInt → p1.toInt ≤ 99 → 0 ≤ p2.toInt → p2.toInt ≤ 4 → 10 ≤ n1.toInt → v29.toInt + 5 = 0) ∧ (1 ≤ p1.toInt → p1.toInt ≤ 99 → 0 ≤ p2.toInt → p2.toInt ≤ 4 → n1.toInt ≤ 9 → (-1) * n1.toInt + v29.toInt = 0) ∧ (0 ≤ v29.toInt → 1 ≤ p1.toInt ∧ p1.toInt ≤ 99 ∧ 0 ≤ p2.toInt ∧ p2.toInt ≤ 4 ∧ n1.toInt ≤ 9) ∧ (∃ n1x : Int32, jC D ld a0 0 n0 n1x n2 n3 fh (cif v29 (upd fs n1.toInt.toNat p1) fs) (cif v29 (upd fk n1.toInt.toNat p2) fk) q1 q2 q3 H ∧ (0 ≤ v29.toInt → (-1) * n1.toInt + n1x.toInt + (-1) = 0) ∧ (v29.toInt ≤ (-1) → (-1) * n1.toInt + n1x.toInt = 0)) from ⟨(fun _ => by omega), (fun _ => by omega), (fun _ => by omega), (fun _ => by omega), (fun _ _ _ _ _ => by omega), (fun _ _ _ _ _ => by omega), (fun _ => ⟨by omega, by omega, by omega, by omega, by omega⟩), ⟨v26, ⟨hj0_0, hf27, hj0_2, hj0_3, hj0_4, (hj22.cg (cif_t (by omega)).symm), (hj25.cg (cif_t (by omega)).symm), hj0_7, hj0_8, hj0_9⟩, (fun _ => by omega), (fun _ => by omega)⟩⟩) hG hS dX2_addVerse_69
      · have hc19 : ¬ (n1.toInt < 10) := fun h9 => c9 ((fi_lt rfl (show (10 : Int32).toInt = 10 by decide)).mpr h9)
        refine lv_bipush (v := (-5)) hx hb dX2_addVerse_30 (by decide) ?_
        have hk_m5 : ((-5) : Int32).toInt = (-5) := by decide
        exact tk_iret (v := (-5)) hx hb hr rfl hlocks (show (p1.toInt ≤ 0 → ((-5) : Int32).toInt + 1 = 0) ∧ (100 ≤ p1.toInt → ((-5) : Int32).toInt + 1 = 0) ∧ (p2.toInt ≤ (-1) → ((-5) : Int32).toInt + 1 = 0) ∧ (5 ≤ p2.toInt → ((-5) : Int32).toInt + 1 = 0) ∧ (1 ≤ p1.toInt → p1.toInt ≤ 99 → 0 ≤ p2.toInt → p2.toInt ≤ 4 → 10 ≤ n1.toInt → ((-5) : Int32).toInt + 5 = 0) ∧ (1 ≤ p1.toInt → p1.toInt ≤ 99 → 0 ≤ p2.toInt → p2.toInt ≤ 4 → n1.toInt ≤ 9 → (-1) * n1.toInt + ((-5) : Int32).toInt = 0) ∧ (0 ≤ ((-5) : Int32).toInt → 1 ≤ p1.toInt ∧ p1.toInt ≤ 99 ∧ 0 ≤ p2.toInt ∧ p2.toInt ≤ 4 ∧ n1.toInt ≤ 9) ∧ (∃ n1x : Int32, jC D ld a0 0 n0 n1x n2 n3 fh (cif ((-5) : Int32) (upd fs n1.toInt.toNat p1) fs) (cif ((-5) : Int32) (upd fk n1.toInt.toNat p2) fk) q1 q2 q3 H ∧ (0 ≤ ((-5) : Int32).toInt → (-1) * n1.toInt + n1x.toInt + (-1) = 0) ∧ (((-5) : Int32).toInt ≤ (-1) → (-1) * n1.toInt + n1x.toInt = 0)) from ⟨(fun _ => by omega), (fun _ => by omega), (fun _ => by omega), (fun _ => by omega), (fun _ _ _ _ _ => by omega), (fun _ _ _ _ _ => by omega), (fun _ => ⟨by omega, by omega, by omega, by omega, by omega⟩), ⟨n1, ⟨hj0_0, hj0_1, hj0_2, hj0_3, hj0_4, (hj0_5.cg (cif_f (by omega)).symm), (hj0_6.cg (cif_f (by omega)).symm), hj0_7, hj0_8, hj0_9⟩, (fun _ => by omega), (fun _ => by omega)⟩⟩) hG hS dX2_addVerse_32
    · have hc18 : v10.toInt = 0 := (fi_eq rfl (show (0 : Int32).toInt = 0 by decide)).mp c9
      refine lv_iconst (v := (-1)) hx hb dX2_addVerse_19 (by decide) ?_
      have hk_m1 : ((-1) : Int32).toInt = (-1) := by decide
      exact tk_iret (v := (-1)) hx hb hr rfl hlocks (show (p1.toInt ≤ 0 → ((-1) : Int32).toInt + 1 = 0) ∧ (100 ≤ p1.toInt → ((-1) : Int32).toInt + 1 = 0) ∧ (p2.toInt ≤ (-1) → ((-1) : Int32).toInt + 1 = 0) ∧ (5 ≤ p2.toInt → ((-1) : Int32).toInt + 1 = 0) ∧ (1 ≤ p1.toInt → p1.toInt ≤ 99 → 0 ≤ p2.toInt → p2.toInt ≤ 4 → 10 ≤ n1.toInt → ((-1) : Int32).toInt + 5 = 0) ∧ (1 ≤ p1.toInt → p1.toInt ≤ 99 → 0 ≤ p2.toInt → p2.toInt ≤ 4 → n1.toInt ≤ 9 → (-1) * n1.toInt + ((-1) : Int32).toInt = 0) ∧ (0 ≤ ((-1) : Int32).toInt → 1 ≤ p1.toInt ∧ p1.toInt ≤ 99 ∧ 0 ≤ p2.toInt ∧ p2.toInt ≤ 4 ∧ n1.toInt ≤ 9) ∧ (∃ n1x : Int32, jC D ld a0 0 n0 n1x n2 n3 fh (cif ((-1) : Int32) (upd fs n1.toInt.toNat p1) fs) (cif ((-1) : Int32) (upd fk n1.toInt.toNat p2) fk) q1 q2 q3 H ∧ (0 ≤ ((-1) : Int32).toInt → (-1) * n1.toInt + n1x.toInt + (-1) = 0) ∧ (((-1) : Int32).toInt ≤ (-1) → (-1) * n1.toInt + n1x.toInt = 0)) from ⟨(fun _ => by omega), (fun _ => by omega), (fun _ => by omega), (fun _ => by omega), (fun _ _ _ _ _ => by omega), (fun _ _ _ _ _ => by omega), (fun _ => ⟨by omega, by omega, by omega, by omega, by omega⟩), ⟨n1, ⟨hj0_0, hj0_1, hj0_2, hj0_3, hj0_4, (hj0_5.cg (cif_f (by omega)).symm), (hj0_6.cg (cif_f (by omega)).symm), hj0_7, hj0_8, hj0_9⟩, (fun _ => by omega), (fun _ => by omega)⟩⟩) hG hS dX2_addVerse_20
set_option maxHeartbeats 4000000 in
set_option maxRecDepth 100000 in
theorem k_X12_verse_x (l : Launch) (D : va_G) (cy : Nat → ClassId) (ld : Nat → Nat) (t : tk_T) (a0 : Nat) (p1 : Int32) (p2 : Int32) (g0 : Int32) (g15 : Int32) (n0 n1 n2 n3 : Int32) (fh fs fk q1 q2 q3 : Nat → Int32) (ht_a0 : t a0 = (13, 0, 0)) (ht_ld20 : t (ld 20) = (3, 0, 0)) (ht_ld70 : t (ld 70) = (32, 8, 0)) (ht_ld80 : t (ld 80) = (33, 10, 0)) (ht_ld90 : t (ld 90) = (34, 10, 0)) (ht_ld100 : t (ld 100) = (35, 10, 0)) (ht_ld110 : t (ld 110) = (36, 10, 0)) (ht_ld120 : t (ld 120) = (37, 10, 0)) (hp_0 : 0 ≤ n0.toInt) (hp_1 : n0.toInt ≤ 8) (hp_2 : 0 ≤ n1.toInt) (hp_3 : n1.toInt ≤ 10) (hp_4 : 0 ≤ n2.toInt) (hp_5 : n2.toInt ≤ 10) (hp_6 : 0 ≤ n3.toInt) (hp_7 : n3.toInt ≤ 8) (hp_8 : 0 ≤ g0.toInt) (hp_9 : g0.toInt ≤ 400) (hp_10 : (-2147483648) ≤ g15.toInt) (hp_11 : g15.toInt ≤ 2147483647) : Met l yX12_verse (wl yX12_verse cX12_verse 3 (some .int)) ({ frames := 6, cells := 0, slots := 0, locals := 350 }) (tp D cy ld t [] [.ref a0, .int p1, .int p2] (fun H => tk_f D H a0 12 13 (.int g0) ∧ tk_f D H a0 12 15 (.int g15) ∧ jC D ld (ld 20) 0 n0 n1 n2 n3 fh fs fk q1 q2 q3 H)) (ti D cy ld t [] (fun r H => (p1.toInt ≤ 0 → r.toInt + 1 = 0) ∧ (100 ≤ p1.toInt → r.toInt + 1 = 0) ∧ (p2.toInt ≤ (-1) → r.toInt + 1 = 0) ∧ (5 ≤ p2.toInt → r.toInt + 1 = 0) ∧ (1 ≤ p1.toInt → p1.toInt ≤ 99 → 0 ≤ p2.toInt → p2.toInt ≤ 4 → 10 ≤ n1.toInt → r.toInt + 5 = 0) ∧ (1 ≤ p1.toInt → p1.toInt ≤ 99 → 0 ≤ p2.toInt → p2.toInt ≤ 4 → n1.toInt ≤ 9 → (-1) * n1.toInt + r.toInt = 0) ∧ (0 ≤ r.toInt → 1 ≤ p1.toInt ∧ p1.toInt ≤ 99 ∧ 0 ≤ p2.toInt ∧ p2.toInt ≤ 4 ∧ n1.toInt ≤ 9) ∧ tk_f D H a0 12 13 (.int g0) ∧ tk_f D H a0 12 15 (.int g15) ∧ (∃ n1x : Int32, jC D ld (ld 20) 0 n0 n1x n2 n3 fh (cif r (upd fs n1.toInt.toNat p1) fs) (cif r (upd fk n1.toInt.toNat p2) fk) q1 q2 q3 H ∧ (0 ≤ r.toInt → (-1) * n1.toInt + n1x.toInt + (-1) = 0) ∧ (r.toInt ≤ (-1) → (-1) * n1.toInt + n1x.toInt = 0))) (tk_w t [(33, 0, 0), (34, 0, 0), (3, 0, 0), (13, 0, 0), (20, 0, 0)])) 0 0 (tk_w t [(33, 0, 0), (34, 0, 0), (3, 0, 0), (13, 0, 0), (20, 0, 0)]) := by
  refine tk_met (y := yX12_verse) (cc := cX12_verse) (maxL := 3) (ret := (some .int)) (av := [.ref a0, .int p1, .int p2]) _ _ (by decide) (Nat.le_of_ble_eq_true rfl) ?_
  intro p e s m args below meth c hx hb hr hml hts htl hown hlocks hK H locs hH hG hS hB hZ ls hl
  have hown : s.vm.findClass RX12 = some m.cls := hown
  have hl : lv_has ls 3 [(0, .ref a0), (1, .int p1), (2, .int p2)] := hl
  obtain ⟨hg_0, hg_1, ⟨hj0_0, hj0_1, hj0_2, hj0_3, hj0_4, hj0_5, hj0_6, hj0_7, hj0_8, hj0_9⟩⟩ := hB
  have hr_p1 := tk_rng p1
  have hr_p2 := tk_rng p2
  refine lv_aload_n hx hb dX12_verse_0 rfl (lv_at hl 0 rfl) ?_
  refine lv_aload_n hx hb dX12_verse_1 rfl (lv_at hl 0 rfl) ?_
  refine tk_get (ci := 12) (C := RX12) (T := TX12) (N := 17) (sp := (8, 20, 3, 0)) hx hb htl inX12 hown hK hG ht_a0 (by decide) tk_no rfl 0 (by decide) (htl _ mw_15) (fun _ h9 => h9) rfl dX12_verse_2 (fun v9 hf1 hV9 => ?_)
  obtain ⟨rfl, ht_ld20⟩ := hV9
  have ht_ld20 : t (ld 20) = (3, 0, 0) := ht_ld20
  refine fx_top (v := .ref (ld 20)) rfl ?_
  refine lv_iload_n hx hb dX12_verse_5 rfl (lv_at hl 1 rfl) ?_
  refine lv_iload_n hx hb dX12_verse_6 rfl (lv_at hl 2 rfl) ?_
  refine tk_Vi (As := [.int p1, .int p2]) (rest := [.ref a0]) (ci := 2) ⟨hx, hb, hml, hown, hts⟩ hK hG hZ hS (k_X2_addVerse_x l D cy ld t (ld 20) p1 p2 n0 n1 n2 n3 fh fs fk q1 q2 q3 ht_ld20 ht_ld70 ht_ld80 ht_ld90 ht_ld100 ht_ld110 ht_ld120 (by omega) (by omega) (by omega) (by omega) (by omega) (by omega) (by omega) (by omega)) ⟨hj0_0, hj0_1, hj0_2, hj0_3, hj0_4, hj0_5, hj0_6, hj0_7, hj0_8, hj0_9⟩ ⟨callB_of 2 hts (wl_in mw_332) rfl rfl rfl (htl _ mw_14) (htl _ mw_329) hd_yX2_addVerse ⟨(Nat.le_of_ble_eq_true rfl), (Nat.le_of_ble_eq_true rfl)⟩, htl _ mw_330, htl _ mw_331⟩ ht_ld20 (by decide) tk_no rfl (tk_w.pick [0, 1, 2] rfl) rfl hl.1 rfl (Nat.le_of_ble_eq_true rfl) dX12_verse_7 ⟨(Nat.le_of_ble_eq_true rfl), (Nat.le_of_ble_eq_true rfl)⟩ (fun v2 H locs hpo hG hS hq9 => ?_)
  have hg_0 := hg_0.call hq9 (tk_w.no ht_a0 (by decide))
  have hg_1 := hg_1.call hq9 (tk_w.no ht_a0 (by decide))
  have hj0_4 := hj0_4.call hq9 (tk_w.no ht_ld70 (by decide))
  have hj0_7 := hj0_7.call hq9 (tk_w.no ht_ld100 (by decide))
  have hj0_8 := hj0_8.call hq9 (tk_w.no ht_ld110 (by decide))
  have hj0_9 := hj0_9.call hq9 (tk_w.no ht_ld120 (by decide))
  obtain ⟨hpo4, hpo5, hpo6, hpo7, hpo8, hpo9, hpo10, ⟨v13, ⟨hj11, hj12, hj14, hj15, hj16, hj17, hj18, hj19, hj20, hj21⟩, hpo22, hpo23⟩⟩ := hpo
  have hq_v13 := tk_rng v13
  refine tk_Vi (As := [.int v2]) (rest := []) (ci := 12) ⟨hx, hb, hml, hown, hts⟩ hK hG hZ hS (k_X12_tell_x l D cy ld t a0 v2 g0 g15 ht_a0 (by omega) (by omega) (by omega) (by omega)) ⟨hg_0, hg_1⟩ ⟨callB_of 1 hts (wl_in mw_271) rfl rfl rfl (htl _ mw_2) (htl _ mw_268) hd_yX12_tell ⟨(Nat.le_of_ble_eq_true rfl), (Nat.le_of_ble_eq_true rfl)⟩, htl _ mw_269, htl _ mw_270⟩ ht_a0 (by decide) tk_no rfl (tk_w.pick [3, 4] rfl) rfl hl.1 rfl (Nat.le_of_ble_eq_true rfl) dX12_verse_10 ⟨(Nat.le_of_ble_eq_true rfl), (Nat.le_of_ble_eq_true rfl)⟩ (fun v24 H locs hpo hG hS hq9 => ?_)
  have hj16 := hj16.call hq9 (tk_w.no ht_ld70 (by decide))
  have hj19 := hj19.call hq9 (tk_w.no ht_ld100 (by decide))
  have hj20 := hj20.call hq9 (tk_w.no ht_ld110 (by decide))
  have hj21 := hj21.call hq9 (tk_w.no ht_ld120 (by decide))
  have hj11 := hj11.call hq9 (tk_w.no ht_ld20 (by decide))
  have hj12 := hj12.call hq9 (tk_w.no ht_ld20 (by decide))
  have hj14 := hj14.call hq9 (tk_w.no ht_ld20 (by decide))
  have hj15 := hj15.call hq9 (tk_w.no ht_ld20 (by decide))
  have hj17 := hj17.call hq9 (tk_w.no ht_ld80 (by decide))
  have hj18 := hj18.call hq9 (tk_w.no ht_ld90 (by decide))
  obtain ⟨hpo26, hf27, hf28⟩ := hpo
  exact tk_iret (v := v24) hx hb hr rfl hlocks (show (p1.toInt ≤ 0 → v24.toInt + 1 = 0) ∧ (100 ≤ p1.toInt → v24.toInt + 1 = 0) ∧ (p2.toInt ≤ (-1) → v24.toInt + 1 = 0) ∧ (5 ≤ p2.toInt → v24.toInt + 1 = 0) ∧ (1 ≤ p1.toInt → p1.toInt ≤ 99 → 0 ≤ p2.toInt → p2.toInt ≤ 4 → 10 ≤ n1.toInt → v24.toInt + 5 = 0) ∧ (1 ≤ p1.toInt → p1.toInt ≤ 99 → 0 ≤ p2.toInt → p2.toInt ≤ 4 → n1.toInt ≤ 9 → (-1) * n1.toInt + v24.toInt = 0) ∧ (0 ≤ v24.toInt → 1 ≤ p1.toInt ∧ p1.toInt ≤ 99 ∧ 0 ≤ p2.toInt ∧ p2.toInt ≤ 4 ∧ n1.toInt ≤ 9) ∧ tk_f D H a0 12 13 (.int g0) ∧ tk_f D H a0 12 15 (.int g15) ∧ (∃ n1x : Int32, jC D ld (ld 20) 0 n0 n1x n2 n3 fh (cif v24 (upd fs n1.toInt.toNat p1) fs) (cif v24 (upd fk n1.toInt.toNat p2) fk) q1 q2 q3 H ∧ (0 ≤ v24.toInt → (-1) * n1.toInt + n1x.toInt + (-1) = 0) ∧ (v24.toInt ≤ (-1) → (-1) * n1.toInt + n1x.toInt = 0)) from ⟨(fun _ => by omega), (fun _ => by omega), (fun _ => by omega), (fun _ => by omega), (fun _ _ _ _ _ => by omega), (fun _ _ _ _ _ => by omega), (fun _ => ⟨by omega, by omega, by omega, by omega, by omega⟩), hf27, hf28, ⟨v13, ⟨hj11, hj12, hj14, hj15, hj16, (hj17.cg (congrArg (fun z => cif z _ _) ((fi_eq rfl rfl).mpr (by omega)))), (hj18.cg (congrArg (fun z => cif z _ _) ((fi_eq rfl rfl).mpr (by omega)))), hj19, hj20, hj21⟩, (fun _ => by omega), (fun _ => by omega)⟩⟩) hG hS dX12_verse_13
set_option maxHeartbeats 4000000 in
set_option maxRecDepth 100000 in
theorem k_X2_isVerse_x_x (l : Launch) (D : va_G) (cy : Nat → ClassId) (ld : Nat → Nat) (t : tk_T) (a0 : Nat) (p1 : Int32) (gv : Int32) (ht_a0 : t a0 = (3, 0, 0)) (hp_0 : 0 ≤ gv.toInt) (hp_1 : gv.toInt ≤ 10) : Met l yX2_isVerse (wl yX2_isVerse cX2_isVerse 2 (some .boolean)) ({ frames := 3, cells := 0, slots := 0, locals := 140 }) (tp D cy ld t [] [.ref a0, .int p1] (fun H => tk_f D H a0 2 4 (.int gv))) (ti D cy ld t [] (fun r H => (1 ≤ r.toInt → 0 ≤ p1.toInt ∧ 0 ≤ gv.toInt + (-1) * p1.toInt + (-1)) ∧ (r.toInt ≤ 0 → 0 ≤ p1.toInt → 0 ≤ (-1) * gv.toInt + p1.toInt) ∧ 0 ≤ r.toInt ∧ r.toInt ≤ 1 ∧ 0 ≤ r.toInt ∧ r.toInt ≤ 1) (tk_w t [])) 0 0 (tk_w t []) := by
  refine tk_met (y := yX2_isVerse) (cc := cX2_isVerse) (maxL := 2) (ret := (some .boolean)) (av := [.ref a0, .int p1]) _ _ (by decide) (Nat.le_of_ble_eq_true rfl) ?_
  intro p e s m args below meth c hx hb hr hml hts htl hown hlocks hK H locs hH hG hS hB hZ ls hl
  have hown : s.vm.findClass RX2 = some m.cls := hown
  have hl : lv_has ls 2 [(0, .ref a0), (1, .int p1)] := hl
  have hg_0 := hB
  have hr_p1 := tk_rng p1
  refine lv_iload_n hx hb dX2_isVerse_0 rfl (lv_at hl 1 rfl) ?_
  refine lv_if_lt (tgt := 16) hx hb dX2_isVerse_1 (by decide) (fun c9 => ?_) (fun c9 => ?_)
  · have hc1 : p1.toInt < 0 := (fi_lt rfl (show (0 : Int32).toInt = 0 by decide)).mp c9
    refine lv_iconst (v := 0) hx hb dX2_isVerse_16 (by decide) ?_
    have hk_0 : (0 : Int32).toInt = 0 := by decide
    exact tk_iret (v := 0) hx hb hr rfl hlocks (show (1 ≤ (0 : Int32).toInt → 0 ≤ p1.toInt ∧ 0 ≤ gv.toInt + (-1) * p1.toInt + (-1)) ∧ ((0 : Int32).toInt ≤ 0 → 0 ≤ p1.toInt → 0 ≤ (-1) * gv.toInt + p1.toInt) ∧ 0 ≤ (0 : Int32).toInt ∧ (0 : Int32).toInt ≤ 1 ∧ 0 ≤ (0 : Int32).toInt ∧ (0 : Int32).toInt ≤ 1 from ⟨(fun _ => ⟨by omega, by omega⟩), (fun _ _ => by omega), (by omega), (by omega), (by omega), (by omega)⟩) hG hS dX2_isVerse_17
  · have hc1 : ¬ (p1.toInt < 0) := fun h9 => c9 ((fi_lt rfl (show (0 : Int32).toInt = 0 by decide)).mpr h9)
    refine lv_iload_n hx hb dX2_isVerse_4 rfl (lv_at hl 1 rfl) ?_
    refine lv_aload_n hx hb dX2_isVerse_5 rfl (lv_at hl 0 rfl) ?_
    refine tk_getk (ci := 2) (C := RX2) (T := TX2) (N := 20) (sp := (0, 0, 10, 0)) hx hb htl inX2 hown hK hG ht_a0 (by decide) tk_no rfl 4 (by decide) (htl _ mw_333) (fun _ h9 => h9) rfl hg_0 dX2_isVerse_6 ?_
    refine lv_icmp_ge (tgt := 16) hx hb dX2_isVerse_9 (by decide) (fun c9 => ?_) (fun c9 => ?_)
    · have hc2 : gv.toInt ≤ p1.toInt := (fi_le rfl rfl).mp c9
      refine lv_iconst (v := 0) hx hb dX2_isVerse_16 (by decide) ?_
      have hk_0 : (0 : Int32).toInt = 0 := by decide
      exact tk_iret (v := 0) hx hb hr rfl hlocks (show (1 ≤ (0 : Int32).toInt → 0 ≤ p1.toInt ∧ 0 ≤ gv.toInt + (-1) * p1.toInt + (-1)) ∧ ((0 : Int32).toInt ≤ 0 → 0 ≤ p1.toInt → 0 ≤ (-1) * gv.toInt + p1.toInt) ∧ 0 ≤ (0 : Int32).toInt ∧ (0 : Int32).toInt ≤ 1 ∧ 0 ≤ (0 : Int32).toInt ∧ (0 : Int32).toInt ≤ 1 from ⟨(fun _ => ⟨by omega, by omega⟩), (fun _ _ => by omega), (by omega), (by omega), (by omega), (by omega)⟩) hG hS dX2_isVerse_17
    · have hc2 : ¬ (gv.toInt ≤ p1.toInt) := fun h9 => c9 ((fi_le rfl rfl).mpr h9)
      refine lv_iconst (v := 1) hx hb dX2_isVerse_12 (by decide) ?_
      refine lv_goto (tgt := 17) hx hb dX2_isVerse_13 (by decide) ?_
      have hk_1 : (1 : Int32).toInt = 1 := by decide
      exact tk_iret (v := 1) hx hb hr rfl hlocks (show (1 ≤ (1 : Int32).toInt → 0 ≤ p1.toInt ∧ 0 ≤ gv.toInt + (-1) * p1.toInt + (-1)) ∧ ((1 : Int32).toInt ≤ 0 → 0 ≤ p1.toInt → 0 ≤ (-1) * gv.toInt + p1.toInt) ∧ 0 ≤ (1 : Int32).toInt ∧ (1 : Int32).toInt ≤ 1 ∧ 0 ≤ (1 : Int32).toInt ∧ (1 : Int32).toInt ≤ 1 from ⟨(fun _ => ⟨by omega, by omega⟩), (fun _ _ => by omega), (by omega), (by omega), (by omega), (by omega)⟩) hG hS dX2_isVerse_17
set_option maxHeartbeats 4000000 in
set_option maxRecDepth 100000 in
theorem k_X12_at_x (l : Launch) (D : va_G) (cy : Nat → ClassId) (ld : Nat → Nat) (t : tk_T) (a0 : Nat) (p1 : Int32) (p2 : Int32) (n0 n1 n2 n3 : Int32) (fh fs fk q1 q2 q3 : Nat → Int32) (ht_a0 : t a0 = (13, 0, 0)) (ht_ld20 : t (ld 20) = (3, 0, 0)) (ht_ld70 : t (ld 70) = (32, 8, 0)) (ht_ld80 : t (ld 80) = (33, 10, 0)) (ht_ld90 : t (ld 90) = (34, 10, 0)) (ht_ld100 : t (ld 100) = (35, 10, 0)) (ht_ld110 : t (ld 110) = (36, 10, 0)) (ht_ld120 : t (ld 120) = (37, 10, 0)) (hp_0 : 0 ≤ n0.toInt) (hp_1 : n0.toInt ≤ 8) (hp_2 : 0 ≤ n1.toInt) (hp_3 : n1.toInt ≤ 10) (hp_4 : 0 ≤ n2.toInt) (hp_5 : n2.toInt ≤ 10) (hp_6 : 0 ≤ n3.toInt) (hp_7 : n3.toInt ≤ 8) : Met l yX12_at (wl yX12_at cX12_at 3 (some .int)) ({ frames := 4, cells := 0, slots := 0, locals := 210 }) (tp D cy ld t [] [.ref a0, .int p1, .int p2] (fun H => jC D ld (ld 20) 0 n0 n1 n2 n3 fh fs fk q1 q2 q3 H)) (ti D cy ld t [] (fun r H => (p1.toInt ≤ (-1) → r.toInt + 1 = 0) ∧ (0 ≤ (-1) * n1.toInt + p1.toInt → r.toInt + 1 = 0) ∧ (p2.toInt ≤ (-1) → r.toInt + 1 = 0) ∧ (2 ≤ p2.toInt → r.toInt + 1 = 0) ∧ (0 ≤ p1.toInt → p1.toInt < n1.toInt → p2.toInt = 0 → r = fs p1.toInt.toNat) ∧ (0 ≤ p1.toInt → p1.toInt < n1.toInt → p2.toInt = 1 → r = fk p1.toInt.toNat) ∧ jC D ld (ld 20) 0 n0 n1 n2 n3 fh fs fk q1 q2 q3 H) (tk_w t [])) 0 0 (tk_w t []) := by
  refine tk_met (y := yX12_at) (cc := cX12_at) (maxL := 3) (ret := (some .int)) (av := [.ref a0, .int p1, .int p2]) _ _ (by decide) (Nat.le_of_ble_eq_true rfl) ?_
  intro p e s m args below meth c hx hb hr hml hts htl hown hlocks hK H locs hH hG hS hB hZ ls hl
  have hown : s.vm.findClass RX12 = some m.cls := hown
  have hl : lv_has ls 3 [(0, .ref a0), (1, .int p1), (2, .int p2)] := hl
  have ⟨hj0_0, hj0_1, hj0_2, hj0_3, hj0_4, hj0_5, hj0_6, hj0_7, hj0_8, hj0_9⟩ := hB
  have hr_p1 := tk_rng p1
  have hr_p2 := tk_rng p2
  refine lv_aload_n hx hb dX12_at_0 rfl (lv_at hl 0 rfl) ?_
  refine tk_get (ci := 12) (C := RX12) (T := TX12) (N := 17) (sp := (8, 20, 3, 0)) hx hb htl inX12 hown hK hG ht_a0 (by decide) tk_no rfl 0 (by decide) (htl _ mw_15) (fun _ h9 => h9) rfl dX12_at_1 (fun v9 hf1 hV9 => ?_)
  obtain ⟨rfl, ht_ld20⟩ := hV9
  have ht_ld20 : t (ld 20) = (3, 0, 0) := ht_ld20
  refine fx_top (v := .ref (ld 20)) rfl ?_
  refine lv_iload_n hx hb dX12_at_4 rfl (lv_at hl 1 rfl) ?_
  refine tk_Vi (As := [.int p1]) (rest := []) (ci := 2) ⟨hx, hb, hml, hown, hts⟩ hK hG hZ hS (k_X2_isVerse_x_x l D cy ld t (ld 20) p1 n1 ht_ld20 (by omega) (by omega)) hj0_1 ⟨callB_of 1 hts (wl_in mw_352) rfl rfl rfl (htl _ mw_14) (htl _ mw_349) hd_yX2_isVerse ⟨(Nat.le_of_ble_eq_true rfl), (Nat.le_of_ble_eq_true rfl)⟩, htl _ mw_350, htl _ mw_351⟩ ht_ld20 (by decide) tk_no rfl (tk_w.pick [] rfl) rfl hl.1 rfl (Nat.le_of_ble_eq_true rfl) dX12_at_5 ⟨(Nat.le_of_ble_eq_true rfl), (Nat.le_of_ble_eq_true rfl)⟩ (fun v2 H locs hpo hG hS hq9 => ?_)
  have hj0_0 := hj0_0.call hq9 tk_w.nil
  have hj0_1 := hj0_1.call hq9 tk_w.nil
  have hj0_2 := hj0_2.call hq9 tk_w.nil
  have hj0_3 := hj0_3.call hq9 tk_w.nil
  have hj0_4 := hj0_4.call hq9 tk_w.nil
  have hj0_5 := hj0_5.call hq9 tk_w.nil
  have hj0_6 := hj0_6.call hq9 tk_w.nil
  have hj0_7 := hj0_7.call hq9 tk_w.nil
  have hj0_8 := hj0_8.call hq9 tk_w.nil
  have hj0_9 := hj0_9.call hq9 tk_w.nil
  obtain ⟨hpo4, hpo5, hpo6, hpo7, hpo8, hpo9⟩ := hpo
  refine lv_if_eq (tgt := 20) hx hb dX12_at_8 (by decide) (fun c9 => ?_) (fun c9 => ?_)
  · have hc10 : v2.toInt = 0 := (fi_eq rfl (show (0 : Int32).toInt = 0 by decide)).mp c9
    refine lv_iconst (v := (-1)) hx hb dX12_at_20 (by decide) ?_
    have hk_m1 : ((-1) : Int32).toInt = (-1) := by decide
    exact tk_iret (v := (-1)) hx hb hr rfl hlocks (show (p1.toInt ≤ (-1) → ((-1) : Int32).toInt + 1 = 0) ∧ (0 ≤ (-1) * n1.toInt + p1.toInt → ((-1) : Int32).toInt + 1 = 0) ∧ (p2.toInt ≤ (-1) → ((-1) : Int32).toInt + 1 = 0) ∧ (2 ≤ p2.toInt → ((-1) : Int32).toInt + 1 = 0) ∧ (0 ≤ p1.toInt → p1.toInt < n1.toInt → p2.toInt = 0 → ((-1) : Int32) = fs p1.toInt.toNat) ∧ (0 ≤ p1.toInt → p1.toInt < n1.toInt → p2.toInt = 1 → ((-1) : Int32) = fk p1.toInt.toNat) ∧ jC D ld (ld 20) 0 n0 n1 n2 n3 fh fs fk q1 q2 q3 H from ⟨(fun _ => by omega), (fun _ => by omega), (fun _ => by omega), (fun _ => by omega), (fun h7 h8 h9 => (show False by omega).elim), (fun h7 h8 h9 => (show False by omega).elim), ⟨hj0_0, hj0_1, hj0_2, hj0_3, hj0_4, hj0_5, hj0_6, hj0_7, hj0_8, hj0_9⟩⟩) hG hS dX12_at_21
  · have hc10 : ¬ (v2.toInt = 0) := fun h9 => c9 ((fi_eq rfl (show (0 : Int32).toInt = 0 by decide)).mpr h9)
    refine lv_iload_n hx hb dX12_at_11 rfl (lv_at hl 2 rfl) ?_
    refine lv_iconst (v := 0) hx hb dX12_at_12 (by decide) ?_
    refine lv_iconst (v := 1) hx hb dX12_at_13 (by decide) ?_
    have hk_0 : (0 : Int32).toInt = 0 := by decide
    have hk_1 : (1 : Int32).toInt = 1 := by decide
    refine tk_Si (As := [.int p2, .int 0, .int 1]) (rest := []) ⟨hx, hb, hml, hown, hts⟩ hK hG hZ hS (k_X12_within_x l D cy ld t _ p2 0 1) trivial ⟨callB_of 3 hts (wl_in mw_262) rfl rfl rfl (htl _ mw_2) (htl _ mw_277) hd_yX12_within ⟨(Nat.le_of_ble_eq_true rfl), (Nat.le_of_ble_eq_true rfl)⟩, htl _ mw_261⟩ (tk_w.pick [] rfl) rfl hl.1 rfl (Nat.le_of_ble_eq_true rfl) dX12_at_14 ⟨(Nat.le_of_ble_eq_true rfl), (Nat.le_of_ble_eq_true rfl)⟩ (fun v11 H locs hpo hG hS hq9 => ?_)
    have hj0_0 := hj0_0.call hq9 tk_w.nil
    have hj0_1 := hj0_1.call hq9 tk_w.nil
    have hj0_2 := hj0_2.call hq9 tk_w.nil
    have hj0_3 := hj0_3.call hq9 tk_w.nil
    have hj0_4 := hj0_4.call hq9 tk_w.nil
    have hj0_5 := hj0_5.call hq9 tk_w.nil
    have hj0_6 := hj0_6.call hq9 tk_w.nil
    have hj0_7 := hj0_7.call hq9 tk_w.nil
    have hj0_8 := hj0_8.call hq9 tk_w.nil
    have hj0_9 := hj0_9.call hq9 tk_w.nil
    obtain ⟨hpo13, hpo14, hpo15, hpo16, hpo17, hpo18⟩ := hpo
    refine lv_if_ne (tgt := 22) hx hb dX12_at_17 (by decide) (fun c9 => ?_) (fun c9 => ?_)
    · have hc19 : ¬ (v11.toInt = 0) := fun h9 => c9 ((fi_eq rfl (show (0 : Int32).toInt = 0 by decide)).mpr h9)
      refine lv_iload_n hx hb dX12_at_22 rfl (lv_at hl 2 rfl) ?_
      refine lv_if_ne (tgt := 38) hx hb dX12_at_23 (by decide) (fun c9 => ?_) (fun c9 => ?_)
      · have hc20 : ¬ (p2.toInt = 0) := fun h9 => c9 ((fi_eq rfl (show (0 : Int32).toInt = 0 by decide)).mpr h9)
        refine lv_aload_n hx hb dX12_at_38 rfl (lv_at hl 0 rfl) ?_
        refine tk_get (ci := 12) (C := RX12) (T := TX12) (N := 17) (sp := (8, 20, 3, 0)) hx hb htl inX12 hown hK hG ht_a0 (by decide) tk_no rfl 0 (by decide) (htl _ mw_15) (fun _ h9 => h9) rfl dX12_at_39 (fun v9 hf21 hV9 => ?_)
        obtain ⟨rfl, ht_ld20⟩ := hV9
        have ht_ld20 : t (ld 20) = (3, 0, 0) := ht_ld20
        refine fx_top (v := .ref (ld 20)) rfl ?_
        refine tk_get (ci := 2) (C := RX2) (T := TX2) (N := 20) (sp := (11, 90, 34, 10)) hx hb htl inX2 hown hK hG ht_ld20 (by decide) tk_no rfl 6 (by decide) (htl _ mw_348) (fun _ h9 => h9) rfl dX12_at_42 (fun v9 hf22 hV9 => ?_)
        obtain ⟨rfl, ht_ld90⟩ := hV9
        have ht_ld90 : t (ld 90) = (34, 10, 0) := ht_ld90
        refine fx_top (v := .ref (ld 90)) rfl ?_
        refine lv_iload_n hx hb dX12_at_45 rfl (lv_at hl 1 rfl) ?_
        refine tk_iald hx hb hK hG ht_ld90 (by decide) (fun _ h => h) tk_no rfl (by omega) (by omega) dX12_at_46 (fun v23 _ hz9 => ?_)
        have hr_v23 := tk_rng v23
        have ev_v23 : v23 = fk p1.toNatClampNeg := hj0_6.at hz9 (by have h9 : p1.toNatClampNeg = p1.toInt.toNat := rfl; omega)
        exact tk_iret (v := v23) hx hb hr rfl hlocks (show (p1.toInt ≤ (-1) → v23.toInt + 1 = 0) ∧ (0 ≤ (-1) * n1.toInt + p1.toInt → v23.toInt + 1 = 0) ∧ (p2.toInt ≤ (-1) → v23.toInt + 1 = 0) ∧ (2 ≤ p2.toInt → v23.toInt + 1 = 0) ∧ (0 ≤ p1.toInt → p1.toInt < n1.toInt → p2.toInt = 0 → v23 = fs p1.toInt.toNat) ∧ (0 ≤ p1.toInt → p1.toInt < n1.toInt → p2.toInt = 1 → v23 = fk p1.toInt.toNat) ∧ jC D ld (ld 20) 0 n0 n1 n2 n3 fh fs fk q1 q2 q3 H from ⟨(fun _ => by omega), (fun _ => by omega), (fun _ => by omega), (fun _ => by omega), (fun h7 h8 h9 => (show False by omega).elim), (fun _ _ _ => ev_v23), ⟨hj0_0, hj0_1, hj0_2, hj0_3, hj0_4, hj0_5, hj0_6, hj0_7, hj0_8, hj0_9⟩⟩) hG hS dX12_at_47
      · have hc20 : p2.toInt = 0 := (fi_eq rfl (show (0 : Int32).toInt = 0 by decide)).mp c9
        refine lv_aload_n hx hb dX12_at_26 rfl (lv_at hl 0 rfl) ?_
        refine tk_get (ci := 12) (C := RX12) (T := TX12) (N := 17) (sp := (8, 20, 3, 0)) hx hb htl inX12 hown hK hG ht_a0 (by decide) tk_no rfl 0 (by decide) (htl _ mw_15) (fun _ h9 => h9) rfl dX12_at_27 (fun v9 hf24 hV9 => ?_)
        obtain ⟨rfl, ht_ld20⟩ := hV9
        have ht_ld20 : t (ld 20) = (3, 0, 0) := ht_ld20
        refine fx_top (v := .ref (ld 20)) rfl ?_
        refine tk_get (ci := 2) (C := RX2) (T := TX2) (N := 20) (sp := (11, 80, 33, 10)) hx hb htl inX2 hown hK hG ht_ld20 (by decide) tk_no rfl 5 (by decide) (htl _ mw_347) (fun _ h9 => h9) rfl dX12_at_30 (fun v9 hf25 hV9 => ?_)
        obtain ⟨rfl, ht_ld80⟩ := hV9
        have ht_ld80 : t (ld 80) = (33, 10, 0) := ht_ld80
        refine fx_top (v := .ref (ld 80)) rfl ?_
        refine lv_iload_n hx hb dX12_at_33 rfl (lv_at hl 1 rfl) ?_
        refine tk_iald hx hb hK hG ht_ld80 (by decide) (fun _ h => h) tk_no rfl (by omega) (by omega) dX12_at_34 (fun v26 _ hz9 => ?_)
        have hr_v26 := tk_rng v26
        have ev_v26 : v26 = fs p1.toNatClampNeg := hj0_5.at hz9 (by have h9 : p1.toNatClampNeg = p1.toInt.toNat := rfl; omega)
        refine lv_goto (tgt := 47) hx hb dX12_at_35 (by decide) ?_
        exact tk_iret (v := v26) hx hb hr rfl hlocks (show (p1.toInt ≤ (-1) → v26.toInt + 1 = 0) ∧ (0 ≤ (-1) * n1.toInt + p1.toInt → v26.toInt + 1 = 0) ∧ (p2.toInt ≤ (-1) → v26.toInt + 1 = 0) ∧ (2 ≤ p2.toInt → v26.toInt + 1 = 0) ∧ (0 ≤ p1.toInt → p1.toInt < n1.toInt → p2.toInt = 0 → v26 = fs p1.toInt.toNat) ∧ (0 ≤ p1.toInt → p1.toInt < n1.toInt → p2.toInt = 1 → v26 = fk p1.toInt.toNat) ∧ jC D ld (ld 20) 0 n0 n1 n2 n3 fh fs fk q1 q2 q3 H from ⟨(fun _ => by omega), (fun _ => by omega), (fun _ => by omega), (fun _ => by omega), (fun _ _ _ => ev_v26), (fun h7 h8 h9 => (show False by omega).elim), ⟨hj0_0, hj0_1, hj0_2, hj0_3, hj0_4, hj0_5, hj0_6, hj0_7, hj0_8, hj0_9⟩⟩) hG hS dX12_at_47
    · have hc19 : v11.toInt = 0 := (fi_eq rfl (show (0 : Int32).toInt = 0 by decide)).mp c9
      refine lv_iconst (v := (-1)) hx hb dX12_at_20 (by decide) ?_
      have hk_m1 : ((-1) : Int32).toInt = (-1) := by decide
      exact tk_iret (v := (-1)) hx hb hr rfl hlocks (show (p1.toInt ≤ (-1) → ((-1) : Int32).toInt + 1 = 0) ∧ (0 ≤ (-1) * n1.toInt + p1.toInt → ((-1) : Int32).toInt + 1 = 0) ∧ (p2.toInt ≤ (-1) → ((-1) : Int32).toInt + 1 = 0) ∧ (2 ≤ p2.toInt → ((-1) : Int32).toInt + 1 = 0) ∧ (0 ≤ p1.toInt → p1.toInt < n1.toInt → p2.toInt = 0 → ((-1) : Int32) = fs p1.toInt.toNat) ∧ (0 ≤ p1.toInt → p1.toInt < n1.toInt → p2.toInt = 1 → ((-1) : Int32) = fk p1.toInt.toNat) ∧ jC D ld (ld 20) 0 n0 n1 n2 n3 fh fs fk q1 q2 q3 H from ⟨(fun _ => by omega), (fun _ => by omega), (fun _ => by omega), (fun _ => by omega), (fun h7 h8 h9 => (show False by omega).elim), (fun h7 h8 h9 => (show False by omega).elim), ⟨hj0_0, hj0_1, hj0_2, hj0_3, hj0_4, hj0_5, hj0_6, hj0_7, hj0_8, hj0_9⟩⟩) hG hS dX12_at_21
set_option maxHeartbeats 4000000 in
set_option maxRecDepth 100000 in
theorem k_X2_addPart_x (l : Launch) (D : va_G) (cy : Nat → ClassId) (ld : Nat → Nat) (t : tk_T) (a0 : Nat) (p1 : Int32) (p2 : Int32) (p3 : Int32) (n0 n1 n2 n3 : Int32) (fh fs fk q1 q2 q3 : Nat → Int32) (ht_a0 : t a0 = (3, 0, 0)) (ht_ld70 : t (ld 70) = (32, 8, 0)) (ht_ld80 : t (ld 80) = (33, 10, 0)) (ht_ld90 : t (ld 90) = (34, 10, 0)) (ht_ld100 : t (ld 100) = (35, 10, 0)) (ht_ld110 : t (ld 110) = (36, 10, 0)) (ht_ld120 : t (ld 120) = (37, 10, 0)) (hp_0 : 0 ≤ n0.toInt) (hp_1 : n0.toInt ≤ 8) (hp_2 : 0 ≤ n1.toInt) (hp_3 : n1.toInt ≤ 10) (hp_4 : 0 ≤ n2.toInt) (hp_5 : n2.toInt ≤ 10) (hp_6 : 0 ≤ n3.toInt) (hp_7 : n3.toInt ≤ 8) : Met l yX2_addPart (wl yX2_addPart cX2_addPart 4 (some .int)) ({ frames := 4, cells := 0, slots := 0, locals := 210 }) (tp D cy ld t [] [.ref a0, .int p1, .int p2, .int p3] (fun H => jC D ld a0 0 n0 n1 n2 n3 fh fs fk q1 q2 q3 H)) (ti D cy ld t [] (fun r H => (p1.toInt ≤ 0 → r.toInt + 1 = 0) ∧ (100 ≤ p1.toInt → r.toInt + 1 = 0) ∧ (p2.toInt ≤ (-1) → r.toInt + 1 = 0) ∧ (5 ≤ p2.toInt → r.toInt + 1 = 0) ∧ (p3.toInt ≤ 0 → r.toInt + 1 = 0) ∧ (10 ≤ p3.toInt → r.toInt + 1 = 0) ∧ (1 ≤ p1.toInt → p1.toInt ≤ 99 → 0 ≤ p2.toInt → p2.toInt ≤ 4 → 1 ≤ p3.toInt → p3.toInt ≤ 9 → 10 ≤ n2.toInt → r.toInt + 5 = 0) ∧ (1 ≤ p1.toInt → p1.toInt ≤ 99 → 0 ≤ p2.toInt → p2.toInt ≤ 4 → 1 ≤ p3.toInt → p3.toInt ≤ 9 → n2.toInt ≤ 9 → (-1) * n2.toInt + r.toInt = 0) ∧ (0 ≤ r.toInt → 1 ≤ p1.toInt ∧ p1.toInt ≤ 99 ∧ 0 ≤ p2.toInt ∧ p2.toInt ≤ 4 ∧ 1 ≤ p3.toInt ∧ p3.toInt ≤ 9 ∧ n2.toInt ≤ 9) ∧ (∃ n2x : Int32, jC D ld a0 0 n0 n1 n2x n3 fh fs fk (cif r (upd q1 n2.toInt.toNat p1) q1) (cif r (upd q2 n2.toInt.toNat p2) q2) (cif r (upd q3 n2.toInt.toNat p3) q3) H ∧ (0 ≤ r.toInt → (-1) * n2.toInt + n2x.toInt + (-1) = 0) ∧ (r.toInt ≤ (-1) → (-1) * n2.toInt + n2x.toInt = 0))) (tk_w t [(35, 0, 0), (36, 0, 0), (37, 0, 0), (3, 0, 0)])) 0 0 (tk_w t [(35, 0, 0), (36, 0, 0), (37, 0, 0), (3, 0, 0)]) := by
  refine tk_met (y := yX2_addPart) (cc := cX2_addPart) (maxL := 4) (ret := (some .int)) (av := [.ref a0, .int p1, .int p2, .int p3]) _ _ (by decide) (Nat.le_of_ble_eq_true rfl) ?_
  intro p e s m args below meth c hx hb hr hml hts htl hown hlocks hK H locs hH hG hS hB hZ ls hl
  have hown : s.vm.findClass RX2 = some m.cls := hown
  have hl : lv_has ls 4 [(0, .ref a0), (1, .int p1), (2, .int p2), (3, .int p3)] := hl
  have ⟨hj0_0, hj0_1, hj0_2, hj0_3, hj0_4, hj0_5, hj0_6, hj0_7, hj0_8, hj0_9⟩ := hB
  have hr_p1 := tk_rng p1
  have hr_p2 := tk_rng p2
  have hr_p3 := tk_rng p3
  refine lv_iload_n hx hb dX2_addPart_0 rfl (lv_at hl 1 rfl) ?_
  refine lv_iconst (v := 1) hx hb dX2_addPart_1 (by decide) ?_
  refine lv_bipush (v := 99) hx hb dX2_addPart_2 (by decide) ?_
  have hk_1 : (1 : Int32).toInt = 1 := by decide
  have hk_99 : (99 : Int32).toInt = 99 := by decide
  refine tk_Ni (As := [.int p1, .int 1, .int 99]) (rest := []) ⟨hx, hb, hml, hown, hts⟩ hK hG hZ hS (k_X12_within_x l D cy ld t _ p1 1 99) trivial ⟨va_cnB 3 hts (wl_in mw_262) rfl rfl rfl hK.2.2.2.1.1 (htl _ mw_2) hd_yX12_within ⟨(Nat.le_of_ble_eq_true rfl), (Nat.le_of_ble_eq_true rfl)⟩, htl _ mw_261, trivial⟩ (tk_w.pick [] rfl) rfl hl.1 rfl (Nat.le_of_ble_eq_true rfl) dX2_addPart_4 ⟨(Nat.le_of_ble_eq_true rfl), (Nat.le_of_ble_eq_true rfl)⟩ (fun v1 H locs hpo hG hS hq9 => ?_)
  have hj0_0 := hj0_0.call hq9 tk_w.nil
  have hj0_1 := hj0_1.call hq9 tk_w.nil
  have hj0_2 := hj0_2.call hq9 tk_w.nil
  have hj0_3 := hj0_3.call hq9 tk_w.nil
  have hj0_4 := hj0_4.call hq9 tk_w.nil
  have hj0_5 := hj0_5.call hq9 tk_w.nil
  have hj0_6 := hj0_6.call hq9 tk_w.nil
  have hj0_7 := hj0_7.call hq9 tk_w.nil
  have hj0_8 := hj0_8.call hq9 tk_w.nil
  have hj0_9 := hj0_9.call hq9 tk_w.nil
  obtain ⟨hpo3, hpo4, hpo5, hpo6, hpo7, hpo8⟩ := hpo
  refine lv_if_eq (tgt := 29) hx hb dX2_addPart_7 (by decide) (fun c9 => ?_) (fun c9 => ?_)
  · have hc9 : v1.toInt = 0 := (fi_eq rfl (show (0 : Int32).toInt = 0 by decide)).mp c9
    refine lv_iconst (v := (-1)) hx hb dX2_addPart_29 (by decide) ?_
    have hk_m1 : ((-1) : Int32).toInt = (-1) := by decide
    exact tk_iret (v := (-1)) hx hb hr rfl hlocks (show (p1.toInt ≤ 0 → ((-1) : Int32).toInt + 1 = 0) ∧ (100 ≤ p1.toInt → ((-1) : Int32).toInt + 1 = 0) ∧ (p2.toInt ≤ (-1) → ((-1) : Int32).toInt + 1 = 0) ∧ (5 ≤ p2.toInt → ((-1) : Int32).toInt + 1 = 0) ∧ (p3.toInt ≤ 0 → ((-1) : Int32).toInt + 1 = 0) ∧ (10 ≤ p3.toInt → ((-1) : Int32).toInt + 1 = 0) ∧ (1 ≤ p1.toInt → p1.toInt ≤ 99 → 0 ≤ p2.toInt → p2.toInt ≤ 4 → 1 ≤ p3.toInt → p3.toInt ≤ 9 → 10 ≤ n2.toInt → ((-1) : Int32).toInt + 5 = 0) ∧ (1 ≤ p1.toInt → p1.toInt ≤ 99 → 0 ≤ p2.toInt → p2.toInt ≤ 4 → 1 ≤ p3.toInt → p3.toInt ≤ 9 → n2.toInt ≤ 9 → (-1) * n2.toInt + ((-1) : Int32).toInt = 0) ∧ (0 ≤ ((-1) : Int32).toInt → 1 ≤ p1.toInt ∧ p1.toInt ≤ 99 ∧ 0 ≤ p2.toInt ∧ p2.toInt ≤ 4 ∧ 1 ≤ p3.toInt ∧ p3.toInt ≤ 9 ∧ n2.toInt ≤ 9) ∧ (∃ n2x : Int32, jC D ld a0 0 n0 n1 n2x n3 fh fs fk (cif ((-1) : Int32) (upd q1 n2.toInt.toNat p1) q1) (cif ((-1) : Int32) (upd q2 n2.toInt.toNat p2) q2) (cif ((-1) : Int32) (upd q3 n2.toInt.toNat p3) q3) H ∧ (0 ≤ ((-1) : Int32).toInt → (-1) * n2.toInt + n2x.toInt + (-1) = 0) ∧ (((-1) : Int32).toInt ≤ (-1) → (-1) * n2.toInt + n2x.toInt = 0)) from ⟨(fun _ => by omega), (fun _ => by omega), (fun _ => by omega), (fun _ => by omega), (fun _ => by omega), (fun _ => by omega), (fun _ _ _ _ _ _ _ => by omega), (fun _ _ _ _ _ _ _ => by omega), (fun _ => ⟨by omega, by omega, by omega, by omega, by omega, by omega, by omega⟩), ⟨n2, ⟨hj0_0, hj0_1, hj0_2, hj0_3, hj0_4, hj0_5, hj0_6, (hj0_7.cg (cif_f (by omega)).symm), (hj0_8.cg (cif_f (by omega)).symm), (hj0_9.cg (cif_f (by omega)).symm)⟩, (fun _ => by omega), (fun _ => by omega)⟩⟩) hG hS dX2_addPart_30
  · have hc9 : ¬ (v1.toInt = 0) := fun h9 => c9 ((fi_eq rfl (show (0 : Int32).toInt = 0 by decide)).mpr h9)
    refine lv_iload_n hx hb dX2_addPart_10 rfl (lv_at hl 2 rfl) ?_
    refine lv_iconst (v := 0) hx hb dX2_addPart_11 (by decide) ?_
    refine lv_iconst (v := 4) hx hb dX2_addPart_12 (by decide) ?_
    have hk_0 : (0 : Int32).toInt = 0 := by decide
    have hk_4 : (4 : Int32).toInt = 4 := by decide
    refine tk_Ni (As := [.int p2, .int 0, .int 4]) (rest := []) ⟨hx, hb, hml, hown, hts⟩ hK hG hZ hS (k_X12_within_x l D cy ld t _ p2 0 4) trivial ⟨va_cnB 3 hts (wl_in mw_262) rfl rfl rfl hK.2.2.2.1.1 (htl _ mw_2) hd_yX12_within ⟨(Nat.le_of_ble_eq_true rfl), (Nat.le_of_ble_eq_true rfl)⟩, htl _ mw_261, trivial⟩ (tk_w.pick [] rfl) rfl hl.1 rfl (Nat.le_of_ble_eq_true rfl) dX2_addPart_13 ⟨(Nat.le_of_ble_eq_true rfl), (Nat.le_of_ble_eq_true rfl)⟩ (fun v10 H locs hpo hG hS hq9 => ?_)
    have hj0_0 := hj0_0.call hq9 tk_w.nil
    have hj0_1 := hj0_1.call hq9 tk_w.nil
    have hj0_2 := hj0_2.call hq9 tk_w.nil
    have hj0_3 := hj0_3.call hq9 tk_w.nil
    have hj0_4 := hj0_4.call hq9 tk_w.nil
    have hj0_5 := hj0_5.call hq9 tk_w.nil
    have hj0_6 := hj0_6.call hq9 tk_w.nil
    have hj0_7 := hj0_7.call hq9 tk_w.nil
    have hj0_8 := hj0_8.call hq9 tk_w.nil
    have hj0_9 := hj0_9.call hq9 tk_w.nil
    obtain ⟨hpo12, hpo13, hpo14, hpo15, hpo16, hpo17⟩ := hpo
    refine lv_if_eq (tgt := 29) hx hb dX2_addPart_16 (by decide) (fun c9 => ?_) (fun c9 => ?_)
    · have hc18 : v10.toInt = 0 := (fi_eq rfl (show (0 : Int32).toInt = 0 by decide)).mp c9
      refine lv_iconst (v := (-1)) hx hb dX2_addPart_29 (by decide) ?_
      have hk_m1 : ((-1) : Int32).toInt = (-1) := by decide
      exact tk_iret (v := (-1)) hx hb hr rfl hlocks (show (p1.toInt ≤ 0 → ((-1) : Int32).toInt + 1 = 0) ∧ (100 ≤ p1.toInt → ((-1) : Int32).toInt + 1 = 0) ∧ (p2.toInt ≤ (-1) → ((-1) : Int32).toInt + 1 = 0) ∧ (5 ≤ p2.toInt → ((-1) : Int32).toInt + 1 = 0) ∧ (p3.toInt ≤ 0 → ((-1) : Int32).toInt + 1 = 0) ∧ (10 ≤ p3.toInt → ((-1) : Int32).toInt + 1 = 0) ∧ (1 ≤ p1.toInt → p1.toInt ≤ 99 → 0 ≤ p2.toInt → p2.toInt ≤ 4 → 1 ≤ p3.toInt → p3.toInt ≤ 9 → 10 ≤ n2.toInt → ((-1) : Int32).toInt + 5 = 0) ∧ (1 ≤ p1.toInt → p1.toInt ≤ 99 → 0 ≤ p2.toInt → p2.toInt ≤ 4 → 1 ≤ p3.toInt → p3.toInt ≤ 9 → n2.toInt ≤ 9 → (-1) * n2.toInt + ((-1) : Int32).toInt = 0) ∧ (0 ≤ ((-1) : Int32).toInt → 1 ≤ p1.toInt ∧ p1.toInt ≤ 99 ∧ 0 ≤ p2.toInt ∧ p2.toInt ≤ 4 ∧ 1 ≤ p3.toInt ∧ p3.toInt ≤ 9 ∧ n2.toInt ≤ 9) ∧ (∃ n2x : Int32, jC D ld a0 0 n0 n1 n2x n3 fh fs fk (cif ((-1) : Int32) (upd q1 n2.toInt.toNat p1) q1) (cif ((-1) : Int32) (upd q2 n2.toInt.toNat p2) q2) (cif ((-1) : Int32) (upd q3 n2.toInt.toNat p3) q3) H ∧ (0 ≤ ((-1) : Int32).toInt → (-1) * n2.toInt + n2x.toInt + (-1) = 0) ∧ (((-1) : Int32).toInt ≤ (-1) → (-1) * n2.toInt + n2x.toInt = 0)) from ⟨(fun _ => by omega), (fun _ => by omega), (fun _ => by omega), (fun _ => by omega), (fun _ => by omega), (fun _ => by omega), (fun _ _ _ _ _ _ _ => by omega), (fun _ _ _ _ _ _ _ => by omega), (fun _ => ⟨by omega, by omega, by omega, by omega, by omega, by omega, by omega⟩), ⟨n2, ⟨hj0_0, hj0_1, hj0_2, hj0_3, hj0_4, hj0_5, hj0_6, (hj0_7.cg (cif_f (by omega)).symm), (hj0_8.cg (cif_f (by omega)).symm), (hj0_9.cg (cif_f (by omega)).symm)⟩, (fun _ => by omega), (fun _ => by omega)⟩⟩) hG hS dX2_addPart_30
    · have hc18 : ¬ (v10.toInt = 0) := fun h9 => c9 ((fi_eq rfl (show (0 : Int32).toInt = 0 by decide)).mpr h9)
      refine lv_iload_n hx hb dX2_addPart_19 rfl (lv_at hl 3 rfl) ?_
      refine lv_iconst (v := 1) hx hb dX2_addPart_20 (by decide) ?_
      refine lv_bipush (v := 9) hx hb dX2_addPart_21 (by decide) ?_
      have hk_1 : (1 : Int32).toInt = 1 := by decide
      have hk_9 : (9 : Int32).toInt = 9 := by decide
      refine tk_Ni (As := [.int p3, .int 1, .int 9]) (rest := []) ⟨hx, hb, hml, hown, hts⟩ hK hG hZ hS (k_X12_within_x l D cy ld t _ p3 1 9) trivial ⟨va_cnB 3 hts (wl_in mw_262) rfl rfl rfl hK.2.2.2.1.1 (htl _ mw_2) hd_yX12_within ⟨(Nat.le_of_ble_eq_true rfl), (Nat.le_of_ble_eq_true rfl)⟩, htl _ mw_261, trivial⟩ (tk_w.pick [] rfl) rfl hl.1 rfl (Nat.le_of_ble_eq_true rfl) dX2_addPart_23 ⟨(Nat.le_of_ble_eq_true rfl), (Nat.le_of_ble_eq_true rfl)⟩ (fun v19 H locs hpo hG hS hq9 => ?_)
      have hj0_0 := hj0_0.call hq9 tk_w.nil
      have hj0_1 := hj0_1.call hq9 tk_w.nil
      have hj0_2 := hj0_2.call hq9 tk_w.nil
      have hj0_3 := hj0_3.call hq9 tk_w.nil
      have hj0_4 := hj0_4.call hq9 tk_w.nil
      have hj0_5 := hj0_5.call hq9 tk_w.nil
      have hj0_6 := hj0_6.call hq9 tk_w.nil
      have hj0_7 := hj0_7.call hq9 tk_w.nil
      have hj0_8 := hj0_8.call hq9 tk_w.nil
      have hj0_9 := hj0_9.call hq9 tk_w.nil
      obtain ⟨hpo21, hpo22, hpo23, hpo24, hpo25, hpo26⟩ := hpo
      refine lv_if_ne (tgt := 31) hx hb dX2_addPart_26 (by decide) (fun c9 => ?_) (fun c9 => ?_)
      · have hc27 : ¬ (v19.toInt = 0) := fun h9 => c9 ((fi_eq rfl (show (0 : Int32).toInt = 0 by decide)).mpr h9)
        refine lv_aload_n hx hb dX2_addPart_31 rfl (lv_at hl 0 rfl) ?_
        refine tk_getk (ci := 2) (C := RX2) (T := TX2) (N := 20) (sp := (0, 0, 10, 0)) hx hb htl inX2 hown hK hG ht_a0 (by decide) tk_no rfl 7 (by decide) (htl _ mw_369) (fun _ h9 => h9) rfl hj0_2 dX2_addPart_32 ?_
        refine lv_bipush (v := 10) hx hb dX2_addPart_35 (by decide) ?_
        refine lv_icmp_lt (tgt := 43) hx hb dX2_addPart_37 (by decide) (fun c9 => ?_) (fun c9 => ?_)
        · have hc28 : n2.toInt < 10 := (fi_lt rfl (show (10 : Int32).toInt = 10 by decide)).mp c9
          refine lv_aload_n hx hb dX2_addPart_43 rfl (lv_at hl 0 rfl) ?_
          refine tk_get (ci := 2) (C := RX2) (T := TX2) (N := 20) (sp := (11, 100, 35, 10)) hx hb htl inX2 hown hK hG ht_a0 (by decide) tk_no rfl 8 (by decide) (htl _ mw_65) (fun _ h9 => h9) rfl dX2_addPart_44 (fun v9 hf29 hV9 => ?_)
          obtain ⟨rfl, ht_ld100⟩ := hV9
          have ht_ld100 : t (ld 100) = (35, 10, 0) := ht_ld100
          refine fx_top (v := .ref (ld 100)) rfl ?_
          refine lv_aload_n hx hb dX2_addPart_47 rfl (lv_at hl 0 rfl) ?_
          refine tk_getk (ci := 2) (C := RX2) (T := TX2) (N := 20) (sp := (0, 0, 10, 0)) hx hb htl inX2 hown hK hG ht_a0 (by decide) tk_no rfl 7 (by decide) (htl _ mw_369) (fun _ h9 => h9) rfl hj0_2 dX2_addPart_48 ?_
          refine lv_iload_n hx hb dX2_addPart_51 rfl (lv_at hl 1 rfl) ?_
          refine tk_iastC hx hb hK hG hS ht_ld100 (by decide) (fun _ => Iff.rfl) tk_no rfl (by omega) (by omega) trivial (tk_w.of ht_ld100 (by decide) (List.mem_of_getElem? (i := 0) rfl) (Nat.le_refl _) (Nat.le_refl _)) dX2_addPart_52 hj0_7 (fun H locs hG hS hq9 hj31 => ?_)
          have hj31 : tk_c H (ld 100) 10 (upd q1 n2.toNatClampNeg p1) := hj31
          have hj0_0 := hj0_0.kept (hq9 _ (tk_ne ht_a0 ht_ld100 (Or.inl (by decide))))
          have hj0_1 := hj0_1.kept (hq9 _ (tk_ne ht_a0 ht_ld100 (Or.inl (by decide))))
          have hj0_2 := hj0_2.kept (hq9 _ (tk_ne ht_a0 ht_ld100 (Or.inl (by decide))))
          have hj0_3 := hj0_3.kept (hq9 _ (tk_ne ht_a0 ht_ld100 (Or.inl (by decide))))
          have hj0_4 := hj0_4.kept (hq9 _ (tk_ne ht_ld70 ht_ld100 (Or.inl (by decide))))
          have hj0_5 := hj0_5.kept (hq9 _ (tk_ne ht_ld80 ht_ld100 (Or.inl (by decide))))
          have hj0_6 := hj0_6.kept (hq9 _ (tk_ne ht_ld90 ht_ld100 (Or.inl (by decide))))
          have hj0_8 := hj0_8.kept (hq9 _ (tk_ne ht_ld110 ht_ld100 (Or.inl (by decide))))
          have hj0_9 := hj0_9.kept (hq9 _ (tk_ne ht_ld120 ht_ld100 (Or.inl (by decide))))
          refine lv_aload_n hx hb dX2_addPart_53 rfl (lv_at hl 0 rfl) ?_
          refine tk_get (ci := 2) (C := RX2) (T := TX2) (N := 20) (sp := (11, 110, 36, 10)) hx hb htl inX2 hown hK hG ht_a0 (by decide) tk_no rfl 9 (by decide) (htl _ mw_66) (fun _ h9 => h9) rfl dX2_addPart_54 (fun v9 hf32 hV9 => ?_)
          obtain ⟨rfl, ht_ld110⟩ := hV9
          have ht_ld110 : t (ld 110) = (36, 10, 0) := ht_ld110
          refine fx_top (v := .ref (ld 110)) rfl ?_
          refine lv_aload_n hx hb dX2_addPart_57 rfl (lv_at hl 0 rfl) ?_
          refine tk_getk (ci := 2) (C := RX2) (T := TX2) (N := 20) (sp := (0, 0, 10, 0)) hx hb htl inX2 hown hK hG ht_a0 (by decide) tk_no rfl 7 (by decide) (htl _ mw_369) (fun _ h9 => h9) rfl hj0_2 dX2_addPart_58 ?_
          refine lv_iload_n hx hb dX2_addPart_61 rfl (lv_at hl 2 rfl) ?_
          refine tk_iastC hx hb hK hG hS ht_ld110 (by decide) (fun _ => Iff.rfl) tk_no rfl (by omega) (by omega) trivial (tk_w.of ht_ld110 (by decide) (List.mem_of_getElem? (i := 1) rfl) (Nat.le_refl _) (Nat.le_refl _)) dX2_addPart_62 hj0_8 (fun H locs hG hS hq9 hj34 => ?_)
          have hj34 : tk_c H (ld 110) 10 (upd q2 n2.toNatClampNeg p2) := hj34
          have hj0_0 := hj0_0.kept (hq9 _ (tk_ne ht_a0 ht_ld110 (Or.inl (by decide))))
          have hj0_1 := hj0_1.kept (hq9 _ (tk_ne ht_a0 ht_ld110 (Or.inl (by decide))))
          have hj0_2 := hj0_2.kept (hq9 _ (tk_ne ht_a0 ht_ld110 (Or.inl (by decide))))
          have hj0_3 := hj0_3.kept (hq9 _ (tk_ne ht_a0 ht_ld110 (Or.inl (by decide))))
          have hj0_4 := hj0_4.kept (hq9 _ (tk_ne ht_ld70 ht_ld110 (Or.inl (by decide))))
          have hj0_5 := hj0_5.kept (hq9 _ (tk_ne ht_ld80 ht_ld110 (Or.inl (by decide))))
          have hj0_6 := hj0_6.kept (hq9 _ (tk_ne ht_ld90 ht_ld110 (Or.inl (by decide))))
          have hj0_9 := hj0_9.kept (hq9 _ (tk_ne ht_ld120 ht_ld110 (Or.inl (by decide))))
          have hj31 := hj31.kept (hq9 _ (tk_ne ht_ld100 ht_ld110 (Or.inl (by decide))))
          refine lv_aload_n hx hb dX2_addPart_63 rfl (lv_at hl 0 rfl) ?_
          refine tk_get (ci := 2) (C := RX2) (T := TX2) (N := 20) (sp := (11, 120, 37, 10)) hx hb htl inX2 hown hK hG ht_a0 (by decide) tk_no rfl 10 (by decide) (htl _ mw_67) (fun _ h9 => h9) rfl dX2_addPart_64 (fun v9 hf35 hV9 => ?_)
          obtain ⟨rfl, ht_ld120⟩ := hV9
          have ht_ld120 : t (ld 120) = (37, 10, 0) := ht_ld120
          refine fx_top (v := .ref (ld 120)) rfl ?_
          refine lv_aload_n hx hb dX2_addPart_67 rfl (lv_at hl 0 rfl) ?_
          refine tk_getk (ci := 2) (C := RX2) (T := TX2) (N := 20) (sp := (0, 0, 10, 0)) hx hb htl inX2 hown hK hG ht_a0 (by decide) tk_no rfl 7 (by decide) (htl _ mw_369) (fun _ h9 => h9) rfl hj0_2 dX2_addPart_68 ?_
          refine lv_iload_n hx hb dX2_addPart_71 rfl (lv_at hl 3 rfl) ?_
          refine tk_iastC hx hb hK hG hS ht_ld120 (by decide) (fun _ => Iff.rfl) tk_no rfl (by omega) (by omega) trivial (tk_w.of ht_ld120 (by decide) (List.mem_of_getElem? (i := 2) rfl) (Nat.le_refl _) (Nat.le_refl _)) dX2_addPart_72 hj0_9 (fun H locs hG hS hq9 hj37 => ?_)
          have hj37 : tk_c H (ld 120) 10 (upd q3 n2.toNatClampNeg p3) := hj37
          have hj0_0 := hj0_0.kept (hq9 _ (tk_ne ht_a0 ht_ld120 (Or.inl (by decide))))
          have hj0_1 := hj0_1.kept (hq9 _ (tk_ne ht_a0 ht_ld120 (Or.inl (by decide))))
          have hj0_2 := hj0_2.kept (hq9 _ (tk_ne ht_a0 ht_ld120 (Or.inl (by decide))))
          have hj0_3 := hj0_3.kept (hq9 _ (tk_ne ht_a0 ht_ld120 (Or.inl (by decide))))
          have hj0_4 := hj0_4.kept (hq9 _ (tk_ne ht_ld70 ht_ld120 (Or.inl (by decide))))
          have hj0_5 := hj0_5.kept (hq9 _ (tk_ne ht_ld80 ht_ld120 (Or.inl (by decide))))
          have hj0_6 := hj0_6.kept (hq9 _ (tk_ne ht_ld90 ht_ld120 (Or.inl (by decide))))
          have hj31 := hj31.kept (hq9 _ (tk_ne ht_ld100 ht_ld120 (Or.inl (by decide))))
          have hj34 := hj34.kept (hq9 _ (tk_ne ht_ld110 ht_ld120 (Or.inl (by decide))))
          refine lv_aload_n hx hb dX2_addPart_73 rfl (lv_at hl 0 rfl) ?_
          refine lv_dup hx hb dX2_addPart_74 rfl ?_
          refine tk_getk (ci := 2) (C := RX2) (T := TX2) (N := 20) (sp := (0, 0, 10, 0)) hx hb htl inX2 hown hK hG ht_a0 (by decide) tk_no rfl 7 (by decide) (htl _ mw_369) (fun _ h9 => h9) rfl hj0_2 dX2_addPart_75 ?_
          refine lv_iconst (v := 1) hx hb dX2_addPart_78 (by decide) ?_
          refine lv_iadd hx hb dX2_addPart_79 ?_
          refine tk_add rfl (show (1 : Int32).toInt = 1 by decide) (by omega) (by omega) (fun v38 h_v38 => ?_)
          refine tk_put (ci := 2) (v := .int v38) (ty := .int) (C := RX2) (T := TX2) (N := 20) (sp := (0, 0, 10, 0)) hx hb htl inX2 tyX2 tyX2_ok nmX2 hown hK hG hS ht_a0 (by decide) tk_no rfl 7 (by decide) (htl _ mw_369) (fun _ h9 => h9) rfl (tyX2_ok 7 (by decide)) rfl rfl rfl (tk_V0 (by omega) (by omega)) (fun _ h => h) (tk_w.of ht_a0 (by decide) (List.mem_of_getElem? (i := 3) rfl) (Nat.le_refl _) (Nat.le_refl _)) dX2_addPart_80 (fun H locs hG hS hf39 hq9 hj9 => ?_)
          have hj0_0 := hj9 0 _ (by decide) (by decide) hj0_0
          have hj0_1 := hj9 4 _ (by decide) (by decide) hj0_1
          have hj0_3 := hj9 11 _ (by decide) (by decide) hj0_3
          have hj0_4 := hj0_4.kept (hq9 _ (tk_ne ht_ld70 ht_a0 (Or.inl (by decide))))
          have hj0_5 := hj0_5.kept (hq9 _ (tk_ne ht_ld80 ht_a0 (Or.inl (by decide))))
          have hj0_6 := hj0_6.kept (hq9 _ (tk_ne ht_ld90 ht_a0 (Or.inl (by decide))))
          have hj31 := hj31.kept (hq9 _ (tk_ne ht_ld100 ht_a0 (Or.inl (by decide))))
          have hj34 := hj34.kept (hq9 _ (tk_ne ht_ld110 ht_a0 (Or.inl (by decide))))
          have hj37 := hj37.kept (hq9 _ (tk_ne ht_ld120 ht_a0 (Or.inl (by decide))))
          refine lv_aload_n hx hb dX2_addPart_83 rfl (lv_at hl 0 rfl) ?_
          refine tk_getk (ci := 2) (C := RX2) (T := TX2) (N := 20) (sp := (0, 0, 10, 0)) hx hb htl inX2 hown hK hG ht_a0 (by decide) tk_no rfl 7 (by decide) (htl _ mw_369) (fun _ h9 => h9) rfl hf39 dX2_addPart_84 ?_
          refine lv_iconst (v := 1) hx hb dX2_addPart_87 (by decide) ?_
          refine lv_isub hx hb dX2_addPart_88 ?_
          refine tk_sub rfl (show (1 : Int32).toInt = 1 by decide) (by omega) (by omega) (fun v41 h_v41 => ?_)
          exact tk_iret (v := v41) hx hb hr rfl hlocks (show (p1.toInt ≤ 0 → v41.toInt + 1 = 0) ∧ (100 ≤ p1.toInt → v41.toInt + 1 = 0) ∧ (p2.toInt ≤ (-1) → v41.toInt + 1 = 0) ∧ (5 ≤ p2.toInt → v41.toInt + 1 = 0) ∧ (p3.toInt ≤ 0 → v41.toInt + 1 = 0) ∧ (10 ≤ p3.toInt → v41.toInt + 1 = 0) ∧ (1 ≤ p1.toInt → p1.toInt ≤ 99 → 0 ≤ p2.toInt → p2.toInt ≤ 4 → 1 ≤ p3.toInt → p3.toInt ≤ 9 → 10 ≤ n2.toInt → v41.toInt + 5 = 0) ∧ (1 ≤ p1.toInt → p1.toInt ≤ 99 → 0 ≤ p2.toInt → p2.toInt ≤ 4 → 1 ≤ p3.toInt → p3.toInt ≤ 9 → n2.toInt ≤ 9 → (-1) * n2.toInt + v41.toInt = 0) ∧ (0 ≤ v41.toInt → 1 ≤ p1.toInt ∧ p1.toInt ≤ 99 ∧ 0 ≤ p2.toInt ∧ p2.toInt ≤ 4 ∧ 1 ≤ p3.toInt ∧ p3.toInt ≤ 9 ∧ n2.toInt ≤ 9) ∧ (∃ n2x : Int32, jC D ld a0 0 n0 n1 n2x n3 fh fs fk (cif v41 (upd q1 n2.toInt.toNat p1) q1) (cif v41 (upd q2 n2.toInt.toNat p2) q2) (cif v41 (upd q3 n2.toInt.toNat p3) q3) H ∧ (0 ≤ v41.toInt → (-1) * n2.toInt + n2x.toInt + (-1) = 0) ∧ (v41.toInt ≤ (-1) → (-1) * n2.toInt + n2x.toInt = 0)) from ⟨(fun _ => by omega), (fun _ => by omega), (fun _ => by omega), (fun _ => by omega), (fun _ => by omega), (fun _ => by omega), (fun _ _ _ _ _ _ _ => by omega), (fun _ _ _ _ _ _ _ => by omega), (fun _ => ⟨by omega, by omega, by omega, by omega, by omega, by omega, by omega⟩), ⟨v38, ⟨hj0_0, hj0_1, hf39, hj0_3, hj0_4, hj0_5, hj0_6, (hj31.cg (cif_t (by omega)).symm), (hj34.cg (cif_t (by omega)).symm), (hj37.cg (cif_t (by omega)).symm)⟩, (fun _ => by omega), (fun _ => by omega)⟩⟩) hG hS dX2_addPart_89
        · have hc28 : ¬ (n2.toInt < 10) := fun h9 => c9 ((fi_lt rfl (show (10 : Int32).toInt = 10 by decide)).mpr h9)
          refine lv_bipush (v := (-5)) hx hb dX2_addPart_40 (by decide) ?_
          have hk_m5 : ((-5) : Int32).toInt = (-5) := by decide
          exact tk_iret (v := (-5)) hx hb hr rfl hlocks (show (p1.toInt ≤ 0 → ((-5) : Int32).toInt + 1 = 0) ∧ (100 ≤ p1.toInt → ((-5) : Int32).toInt + 1 = 0) ∧ (p2.toInt ≤ (-1) → ((-5) : Int32).toInt + 1 = 0) ∧ (5 ≤ p2.toInt → ((-5) : Int32).toInt + 1 = 0) ∧ (p3.toInt ≤ 0 → ((-5) : Int32).toInt + 1 = 0) ∧ (10 ≤ p3.toInt → ((-5) : Int32).toInt + 1 = 0) ∧ (1 ≤ p1.toInt → p1.toInt ≤ 99 → 0 ≤ p2.toInt → p2.toInt ≤ 4 → 1 ≤ p3.toInt → p3.toInt ≤ 9 → 10 ≤ n2.toInt → ((-5) : Int32).toInt + 5 = 0) ∧ (1 ≤ p1.toInt → p1.toInt ≤ 99 → 0 ≤ p2.toInt → p2.toInt ≤ 4 → 1 ≤ p3.toInt → p3.toInt ≤ 9 → n2.toInt ≤ 9 → (-1) * n2.toInt + ((-5) : Int32).toInt = 0) ∧ (0 ≤ ((-5) : Int32).toInt → 1 ≤ p1.toInt ∧ p1.toInt ≤ 99 ∧ 0 ≤ p2.toInt ∧ p2.toInt ≤ 4 ∧ 1 ≤ p3.toInt ∧ p3.toInt ≤ 9 ∧ n2.toInt ≤ 9) ∧ (∃ n2x : Int32, jC D ld a0 0 n0 n1 n2x n3 fh fs fk (cif ((-5) : Int32) (upd q1 n2.toInt.toNat p1) q1) (cif ((-5) : Int32) (upd q2 n2.toInt.toNat p2) q2) (cif ((-5) : Int32) (upd q3 n2.toInt.toNat p3) q3) H ∧ (0 ≤ ((-5) : Int32).toInt → (-1) * n2.toInt + n2x.toInt + (-1) = 0) ∧ (((-5) : Int32).toInt ≤ (-1) → (-1) * n2.toInt + n2x.toInt = 0)) from ⟨(fun _ => by omega), (fun _ => by omega), (fun _ => by omega), (fun _ => by omega), (fun _ => by omega), (fun _ => by omega), (fun _ _ _ _ _ _ _ => by omega), (fun _ _ _ _ _ _ _ => by omega), (fun _ => ⟨by omega, by omega, by omega, by omega, by omega, by omega, by omega⟩), ⟨n2, ⟨hj0_0, hj0_1, hj0_2, hj0_3, hj0_4, hj0_5, hj0_6, (hj0_7.cg (cif_f (by omega)).symm), (hj0_8.cg (cif_f (by omega)).symm), (hj0_9.cg (cif_f (by omega)).symm)⟩, (fun _ => by omega), (fun _ => by omega)⟩⟩) hG hS dX2_addPart_42
      · have hc27 : v19.toInt = 0 := (fi_eq rfl (show (0 : Int32).toInt = 0 by decide)).mp c9
        refine lv_iconst (v := (-1)) hx hb dX2_addPart_29 (by decide) ?_
        have hk_m1 : ((-1) : Int32).toInt = (-1) := by decide
        exact tk_iret (v := (-1)) hx hb hr rfl hlocks (show (p1.toInt ≤ 0 → ((-1) : Int32).toInt + 1 = 0) ∧ (100 ≤ p1.toInt → ((-1) : Int32).toInt + 1 = 0) ∧ (p2.toInt ≤ (-1) → ((-1) : Int32).toInt + 1 = 0) ∧ (5 ≤ p2.toInt → ((-1) : Int32).toInt + 1 = 0) ∧ (p3.toInt ≤ 0 → ((-1) : Int32).toInt + 1 = 0) ∧ (10 ≤ p3.toInt → ((-1) : Int32).toInt + 1 = 0) ∧ (1 ≤ p1.toInt → p1.toInt ≤ 99 → 0 ≤ p2.toInt → p2.toInt ≤ 4 → 1 ≤ p3.toInt → p3.toInt ≤ 9 → 10 ≤ n2.toInt → ((-1) : Int32).toInt + 5 = 0) ∧ (1 ≤ p1.toInt → p1.toInt ≤ 99 → 0 ≤ p2.toInt → p2.toInt ≤ 4 → 1 ≤ p3.toInt → p3.toInt ≤ 9 → n2.toInt ≤ 9 → (-1) * n2.toInt + ((-1) : Int32).toInt = 0) ∧ (0 ≤ ((-1) : Int32).toInt → 1 ≤ p1.toInt ∧ p1.toInt ≤ 99 ∧ 0 ≤ p2.toInt ∧ p2.toInt ≤ 4 ∧ 1 ≤ p3.toInt ∧ p3.toInt ≤ 9 ∧ n2.toInt ≤ 9) ∧ (∃ n2x : Int32, jC D ld a0 0 n0 n1 n2x n3 fh fs fk (cif ((-1) : Int32) (upd q1 n2.toInt.toNat p1) q1) (cif ((-1) : Int32) (upd q2 n2.toInt.toNat p2) q2) (cif ((-1) : Int32) (upd q3 n2.toInt.toNat p3) q3) H ∧ (0 ≤ ((-1) : Int32).toInt → (-1) * n2.toInt + n2x.toInt + (-1) = 0) ∧ (((-1) : Int32).toInt ≤ (-1) → (-1) * n2.toInt + n2x.toInt = 0)) from ⟨(fun _ => by omega), (fun _ => by omega), (fun _ => by omega), (fun _ => by omega), (fun _ => by omega), (fun _ => by omega), (fun _ _ _ _ _ _ _ => by omega), (fun _ _ _ _ _ _ _ => by omega), (fun _ => ⟨by omega, by omega, by omega, by omega, by omega, by omega, by omega⟩), ⟨n2, ⟨hj0_0, hj0_1, hj0_2, hj0_3, hj0_4, hj0_5, hj0_6, (hj0_7.cg (cif_f (by omega)).symm), (hj0_8.cg (cif_f (by omega)).symm), (hj0_9.cg (cif_f (by omega)).symm)⟩, (fun _ => by omega), (fun _ => by omega)⟩⟩) hG hS dX2_addPart_30
set_option maxHeartbeats 4000000 in
set_option maxRecDepth 100000 in
theorem k_X12_piece_x (l : Launch) (D : va_G) (cy : Nat → ClassId) (ld : Nat → Nat) (t : tk_T) (a0 : Nat) (p1 : Int32) (p2 : Int32) (p3 : Int32) (g0 : Int32) (g15 : Int32) (n0 n1 n2 n3 : Int32) (fh fs fk q1 q2 q3 : Nat → Int32) (ht_a0 : t a0 = (13, 0, 0)) (ht_ld20 : t (ld 20) = (3, 0, 0)) (ht_ld70 : t (ld 70) = (32, 8, 0)) (ht_ld80 : t (ld 80) = (33, 10, 0)) (ht_ld90 : t (ld 90) = (34, 10, 0)) (ht_ld100 : t (ld 100) = (35, 10, 0)) (ht_ld110 : t (ld 110) = (36, 10, 0)) (ht_ld120 : t (ld 120) = (37, 10, 0)) (hp_0 : 0 ≤ n0.toInt) (hp_1 : n0.toInt ≤ 8) (hp_2 : 0 ≤ n1.toInt) (hp_3 : n1.toInt ≤ 10) (hp_4 : 0 ≤ n2.toInt) (hp_5 : n2.toInt ≤ 10) (hp_6 : 0 ≤ n3.toInt) (hp_7 : n3.toInt ≤ 8) (hp_8 : 0 ≤ g0.toInt) (hp_9 : g0.toInt ≤ 400) (hp_10 : (-2147483648) ≤ g15.toInt) (hp_11 : g15.toInt ≤ 2147483647) : Met l yX12_piece (wl yX12_piece cX12_piece 4 (some .int)) ({ frames := 6, cells := 0, slots := 0, locals := 350 }) (tp D cy ld t [] [.ref a0, .int p1, .int p2, .int p3] (fun H => tk_f D H a0 12 13 (.int g0) ∧ tk_f D H a0 12 15 (.int g15) ∧ jC D ld (ld 20) 0 n0 n1 n2 n3 fh fs fk q1 q2 q3 H)) (ti D cy ld t [] (fun r H => (p1.toInt ≤ 0 → r.toInt + 1 = 0) ∧ (100 ≤ p1.toInt → r.toInt + 1 = 0) ∧ (p2.toInt ≤ (-1) → r.toInt + 1 = 0) ∧ (5 ≤ p2.toInt → r.toInt + 1 = 0) ∧ (p3.toInt ≤ 0 → r.toInt + 1 = 0) ∧ (10 ≤ p3.toInt → r.toInt + 1 = 0) ∧ (1 ≤ p1.toInt → p1.toInt ≤ 99 → 0 ≤ p2.toInt → p2.toInt ≤ 4 → 1 ≤ p3.toInt → p3.toInt ≤ 9 → 10 ≤ n2.toInt → r.toInt + 5 = 0) ∧ (1 ≤ p1.toInt → p1.toInt ≤ 99 → 0 ≤ p2.toInt → p2.toInt ≤ 4 → 1 ≤ p3.toInt → p3.toInt ≤ 9 → n2.toInt ≤ 9 → (-1) * n2.toInt + r.toInt = 0) ∧ (0 ≤ r.toInt → 1 ≤ p1.toInt ∧ p1.toInt ≤ 99 ∧ 0 ≤ p2.toInt ∧ p2.toInt ≤ 4 ∧ 1 ≤ p3.toInt ∧ p3.toInt ≤ 9 ∧ n2.toInt ≤ 9) ∧ tk_f D H a0 12 13 (.int g0) ∧ tk_f D H a0 12 15 (.int g15) ∧ (∃ n2x : Int32, jC D ld (ld 20) 0 n0 n1 n2x n3 fh fs fk (cif r (upd q1 n2.toInt.toNat p1) q1) (cif r (upd q2 n2.toInt.toNat p2) q2) (cif r (upd q3 n2.toInt.toNat p3) q3) H ∧ (0 ≤ r.toInt → (-1) * n2.toInt + n2x.toInt + (-1) = 0) ∧ (r.toInt ≤ (-1) → (-1) * n2.toInt + n2x.toInt = 0))) (tk_w t [(35, 0, 0), (36, 0, 0), (37, 0, 0), (3, 0, 0), (13, 0, 0), (20, 0, 0)])) 0 0 (tk_w t [(35, 0, 0), (36, 0, 0), (37, 0, 0), (3, 0, 0), (13, 0, 0), (20, 0, 0)]) := by
  refine tk_met (y := yX12_piece) (cc := cX12_piece) (maxL := 4) (ret := (some .int)) (av := [.ref a0, .int p1, .int p2, .int p3]) _ _ (by decide) (Nat.le_of_ble_eq_true rfl) ?_
  intro p e s m args below meth c hx hb hr hml hts htl hown hlocks hK H locs hH hG hS hB hZ ls hl
  have hown : s.vm.findClass RX12 = some m.cls := hown
  have hl : lv_has ls 4 [(0, .ref a0), (1, .int p1), (2, .int p2), (3, .int p3)] := hl
  obtain ⟨hg_0, hg_1, ⟨hj0_0, hj0_1, hj0_2, hj0_3, hj0_4, hj0_5, hj0_6, hj0_7, hj0_8, hj0_9⟩⟩ := hB
  have hr_p1 := tk_rng p1
  have hr_p2 := tk_rng p2
  have hr_p3 := tk_rng p3
  refine lv_aload_n hx hb dX12_piece_0 rfl (lv_at hl 0 rfl) ?_
  refine lv_aload_n hx hb dX12_piece_1 rfl (lv_at hl 0 rfl) ?_
  refine tk_get (ci := 12) (C := RX12) (T := TX12) (N := 17) (sp := (8, 20, 3, 0)) hx hb htl inX12 hown hK hG ht_a0 (by decide) tk_no rfl 0 (by decide) (htl _ mw_15) (fun _ h9 => h9) rfl dX12_piece_2 (fun v9 hf1 hV9 => ?_)
  obtain ⟨rfl, ht_ld20⟩ := hV9
  have ht_ld20 : t (ld 20) = (3, 0, 0) := ht_ld20
  refine fx_top (v := .ref (ld 20)) rfl ?_
  refine lv_iload_n hx hb dX12_piece_5 rfl (lv_at hl 1 rfl) ?_
  refine lv_iload_n hx hb dX12_piece_6 rfl (lv_at hl 2 rfl) ?_
  refine lv_iload_n hx hb dX12_piece_7 rfl (lv_at hl 3 rfl) ?_
  refine tk_Vi (As := [.int p1, .int p2, .int p3]) (rest := [.ref a0]) (ci := 2) ⟨hx, hb, hml, hown, hts⟩ hK hG hZ hS (k_X2_addPart_x l D cy ld t (ld 20) p1 p2 p3 n0 n1 n2 n3 fh fs fk q1 q2 q3 ht_ld20 ht_ld70 ht_ld80 ht_ld90 ht_ld100 ht_ld110 ht_ld120 (by omega) (by omega) (by omega) (by omega) (by omega) (by omega) (by omega) (by omega)) ⟨hj0_0, hj0_1, hj0_2, hj0_3, hj0_4, hj0_5, hj0_6, hj0_7, hj0_8, hj0_9⟩ ⟨callB_of 3 hts (wl_in mw_368) rfl rfl rfl (htl _ mw_14) (htl _ mw_365) hd_yX2_addPart ⟨(Nat.le_of_ble_eq_true rfl), (Nat.le_of_ble_eq_true rfl)⟩, htl _ mw_366, htl _ mw_367⟩ ht_ld20 (by decide) tk_no rfl (tk_w.pick [0, 1, 2, 3] rfl) rfl hl.1 rfl (Nat.le_of_ble_eq_true rfl) dX12_piece_8 ⟨(Nat.le_of_ble_eq_true rfl), (Nat.le_of_ble_eq_true rfl)⟩ (fun v2 H locs hpo hG hS hq9 => ?_)
  have hg_0 := hg_0.call hq9 (tk_w.no ht_a0 (by decide))
  have hg_1 := hg_1.call hq9 (tk_w.no ht_a0 (by decide))
  have hj0_4 := hj0_4.call hq9 (tk_w.no ht_ld70 (by decide))
  have hj0_5 := hj0_5.call hq9 (tk_w.no ht_ld80 (by decide))
  have hj0_6 := hj0_6.call hq9 (tk_w.no ht_ld90 (by decide))
  obtain ⟨hpo4, hpo5, hpo6, hpo7, hpo8, hpo9, hpo10, hpo11, hpo12, ⟨v16, ⟨hj13, hj14, hj15, hj17, hj18, hj19, hj20, hj21, hj22, hj23⟩, hpo24, hpo25⟩⟩ := hpo
  have hq_v16 := tk_rng v16
  refine tk_Vi (As := [.int v2]) (rest := []) (ci := 12) ⟨hx, hb, hml, hown, hts⟩ hK hG hZ hS (k_X12_tell_x l D cy ld t a0 v2 g0 g15 ht_a0 (by omega) (by omega) (by omega) (by omega)) ⟨hg_0, hg_1⟩ ⟨callB_of 1 hts (wl_in mw_271) rfl rfl rfl (htl _ mw_2) (htl _ mw_268) hd_yX12_tell ⟨(Nat.le_of_ble_eq_true rfl), (Nat.le_of_ble_eq_true rfl)⟩, htl _ mw_269, htl _ mw_270⟩ ht_a0 (by decide) tk_no rfl (tk_w.pick [4, 5] rfl) rfl hl.1 rfl (Nat.le_of_ble_eq_true rfl) dX12_piece_11 ⟨(Nat.le_of_ble_eq_true rfl), (Nat.le_of_ble_eq_true rfl)⟩ (fun v26 H locs hpo hG hS hq9 => ?_)
  have hj18 := hj18.call hq9 (tk_w.no ht_ld70 (by decide))
  have hj19 := hj19.call hq9 (tk_w.no ht_ld80 (by decide))
  have hj20 := hj20.call hq9 (tk_w.no ht_ld90 (by decide))
  have hj13 := hj13.call hq9 (tk_w.no ht_ld20 (by decide))
  have hj14 := hj14.call hq9 (tk_w.no ht_ld20 (by decide))
  have hj15 := hj15.call hq9 (tk_w.no ht_ld20 (by decide))
  have hj17 := hj17.call hq9 (tk_w.no ht_ld20 (by decide))
  have hj21 := hj21.call hq9 (tk_w.no ht_ld100 (by decide))
  have hj22 := hj22.call hq9 (tk_w.no ht_ld110 (by decide))
  have hj23 := hj23.call hq9 (tk_w.no ht_ld120 (by decide))
  obtain ⟨hpo28, hf29, hf30⟩ := hpo
  exact tk_iret (v := v26) hx hb hr rfl hlocks (show (p1.toInt ≤ 0 → v26.toInt + 1 = 0) ∧ (100 ≤ p1.toInt → v26.toInt + 1 = 0) ∧ (p2.toInt ≤ (-1) → v26.toInt + 1 = 0) ∧ (5 ≤ p2.toInt → v26.toInt + 1 = 0) ∧ (p3.toInt ≤ 0 → v26.toInt + 1 = 0) ∧ (10 ≤ p3.toInt → v26.toInt + 1 = 0) ∧ (1 ≤ p1.toInt → p1.toInt ≤ 99 → 0 ≤ p2.toInt → p2.toInt ≤ 4 → 1 ≤ p3.toInt → p3.toInt ≤ 9 → 10 ≤ n2.toInt → v26.toInt + 5 = 0) ∧ (1 ≤ p1.toInt → p1.toInt ≤ 99 → 0 ≤ p2.toInt → p2.toInt ≤ 4 → 1 ≤ p3.toInt → p3.toInt ≤ 9 → n2.toInt ≤ 9 → (-1) * n2.toInt + v26.toInt = 0) ∧ (0 ≤ v26.toInt → 1 ≤ p1.toInt ∧ p1.toInt ≤ 99 ∧ 0 ≤ p2.toInt ∧ p2.toInt ≤ 4 ∧ 1 ≤ p3.toInt ∧ p3.toInt ≤ 9 ∧ n2.toInt ≤ 9) ∧ tk_f D H a0 12 13 (.int g0) ∧ tk_f D H a0 12 15 (.int g15) ∧ (∃ n2x : Int32, jC D ld (ld 20) 0 n0 n1 n2x n3 fh fs fk (cif v26 (upd q1 n2.toInt.toNat p1) q1) (cif v26 (upd q2 n2.toInt.toNat p2) q2) (cif v26 (upd q3 n2.toInt.toNat p3) q3) H ∧ (0 ≤ v26.toInt → (-1) * n2.toInt + n2x.toInt + (-1) = 0) ∧ (v26.toInt ≤ (-1) → (-1) * n2.toInt + n2x.toInt = 0)) from ⟨(fun _ => by omega), (fun _ => by omega), (fun _ => by omega), (fun _ => by omega), (fun _ => by omega), (fun _ => by omega), (fun _ _ _ _ _ _ _ => by omega), (fun _ _ _ _ _ _ _ => by omega), (fun _ => ⟨by omega, by omega, by omega, by omega, by omega, by omega, by omega⟩), hf29, hf30, ⟨v16, ⟨hj13, hj14, hj15, hj17, hj18, hj19, hj20, (hj21.cg (congrArg (fun z => cif z _ _) ((fi_eq rfl rfl).mpr (by omega)))), (hj22.cg (congrArg (fun z => cif z _ _) ((fi_eq rfl rfl).mpr (by omega)))), (hj23.cg (congrArg (fun z => cif z _ _) ((fi_eq rfl rfl).mpr (by omega))))⟩, (fun _ => by omega), (fun _ => by omega)⟩⟩) hG hS dX12_piece_14
