theorem dJ7_fill_53178_0 : decode cJ7_fill_53178 0 = .ok (.iconst 0, 1) := by decide +kernel
theorem dJ7_fill_53178_1 : decode cJ7_fill_53178 1 = .ok (.istore_n 2, 1) := by decide +kernel
theorem dJ7_fill_53178_2 : decode cJ7_fill_53178 2 = .ok (.aload_n 0, 1) := by decide +kernel
theorem dJ7_fill_53178_3 : decode cJ7_fill_53178 3 = .ok (.arraylength, 1) := by decide +kernel
theorem dJ7_fill_53178_4 : decode cJ7_fill_53178 4 = .ok (.istore_n 3, 1) := by decide +kernel
theorem dJ7_fill_53178_5 : decode cJ7_fill_53178 5 = .ok (.iload_n 2, 1) := by decide +kernel
theorem dJ7_fill_53178_6 : decode cJ7_fill_53178 6 = .ok (.iload_n 3, 1) := by decide +kernel
theorem dJ7_fill_53178_7 : decode cJ7_fill_53178 7 = .ok (.if_icmp .ge 13, 3) := by decide +kernel
theorem dJ7_fill_53178_20 : decode cJ7_fill_53178 20 = .ok (.return_, 1) := by decide +kernel
theorem dJ7_fill_53178_10 : decode cJ7_fill_53178 10 = .ok (.aload_n 0, 1) := by decide +kernel
theorem dJ7_fill_53178_11 : decode cJ7_fill_53178 11 = .ok (.iload_n 2, 1) := by decide +kernel
theorem dJ7_fill_53178_12 : decode cJ7_fill_53178 12 = .ok (.iload_n 1, 1) := by decide +kernel
theorem dJ7_fill_53178_13 : decode cJ7_fill_53178 13 = .ok (.iastore, 1) := by decide +kernel
theorem dJ7_fill_53178_14 : decode cJ7_fill_53178 14 = .ok (.iinc 2 1, 3) := by decide +kernel
theorem dJ7_fill_53178_17 : decode cJ7_fill_53178 17 = .ok (.goto (-12), 3) := by decide +kernel
set_option maxHeartbeats 4000000 in
set_option maxRecDepth 100000 in
theorem k_J7_fill_53178 (l : Launch) (D : va_G) (cy : Nat → ClassId) (ld : Nat → Nat) (t : tk_T) (a0 : Nat) (p1 : Int32) (ht_a0 : t a0 = (20, 8, 0)) : Met l yJ7_fill_53178 (wl yJ7_fill_53178 cJ7_fill_53178 4 none) ({ frames := 3, cells := 0, slots := 0, locals := 140 }) (tp D cy ld t [] [.ref a0, .int p1] (fun H => True)) (tv D cy ld t [] (fun H => True) (tk_w t [(20, 0, 0)])) 0 0 (tk_w t [(20, 0, 0)]) := by
  refine tk_met (y := yJ7_fill_53178) (cc := cJ7_fill_53178) (maxL := 4) (ret := none) (av := [.ref a0, .int p1]) _ _ (by decide) (Nat.le_of_ble_eq_true rfl) ?_
  intro p e s m args below meth c hx hb hr hml hts htl hown hlocks hK H locs hH hG hS hB hZ ls hl
  have hown : s.vm.findClass RJ7 = some m.cls := hown
  have hl : lv_has ls 4 [(0, .ref a0), (1, .int p1)] := hl
  have hr_p1 := tk_rng p1
  refine lv_iconst (v := 0) hx hb dJ7_fill_53178_0 (by decide) ?_
  refine lv_istore_n (lv' := [(2, .int 0), (0, .ref a0), (1, .int p1)]) hx hb dJ7_fill_53178_1 rfl hl (by decide) rfl (fun ls hl => ?_)
  refine lv_aload_n hx hb dJ7_fill_53178_2 rfl (lv_at hl 1 rfl) ?_
  refine tk_alen hx hb hK hG 0 rfl ht_a0 (by decide) (fun _ h => by obtain ⟨f, h, _⟩ := h; exact ⟨_, h⟩) tk_no (by decide) dJ7_fill_53178_3 (fun z hz => ?_)
  obtain rfl : z = 8 := (fi_eq hz (by decide)).mpr rfl
  refine lv_istore_n (lv' := [(3, .int 8), (2, .int 0), (0, .ref a0), (1, .int p1)]) hx hb dJ7_fill_53178_4 rfl hl (by decide) rfl (fun ls hl => ?_)
  have hl23 : ∀ (N_l23 : Nat) (v1 : Int32) (H : Heap) (locs : List Loc), v1.toInt ≤ 8 → 0 ≤ v1.toInt → (-1) * v1.toInt + 8 < (N_l23 : Int) → tk_G D cy ld t [] H → va_S (tk_w t [(20, 0, 0)]) s.heap H locs → ∀ ls : Array Slot, lv_has ls 4 [(3, .int 8), (2, .int v1), (0, .ref a0), (1, .int p1)] → W p l e ({ frames := 3, cells := 0, slots := 0, locals := 140 }) s m args below meth c H locs 0 0 (MQ below (tv D cy ld t [] (fun H => True) (tk_w t [(20, 0, 0)])) args s 0 0 (tk_w t [(20, 0, 0)])) (F0 m 5 ls []) := by
    intro N_l23
    induction N_l23 with
    | zero => intro v1 H locs hq0_l23 hq1_l23 hm_l23 hG hS ls hl; exfalso; omega
    | succ N_l23 ih_l23 =>
      intro v1 H locs hq0_l23 hq1_l23 hm_l23 hG hS ls hl
      refine lv_iload_n hx hb dJ7_fill_53178_5 rfl (lv_at hl 1 rfl) ?_
      refine lv_iload_n hx hb dJ7_fill_53178_6 rfl (lv_at hl 0 rfl) ?_
      refine lv_icmp_ge (tgt := 20) hx hb dJ7_fill_53178_7 (by decide) (fun c9 => ?_) (fun c9 => ?_)
      · have hc24 : 8 ≤ v1.toInt := (fi_le (show (8 : Int32).toInt = 8 by decide) rfl).mp c9
        exact tk_vret hx hb hr hlocks trivial hG hS dJ7_fill_53178_20
      · have hc24 : ¬ (8 ≤ v1.toInt) := fun h9 => c9 ((fi_le (show (8 : Int32).toInt = 8 by decide) rfl).mpr h9)
        refine lv_aload_n hx hb dJ7_fill_53178_10 rfl (lv_at hl 2 rfl) ?_
        refine lv_iload_n hx hb dJ7_fill_53178_11 rfl (lv_at hl 1 rfl) ?_
        refine lv_iload_n hx hb dJ7_fill_53178_12 rfl (lv_at hl 3 rfl) ?_
        refine tk_iast hx hb hK hG hS ht_a0 (by decide) (fun _ => Iff.rfl) tk_no rfl (by omega) (by omega) trivial (tk_w.of ht_a0 (by decide) (List.mem_of_getElem? (i := 0) rfl) (Nat.le_refl _) (Nat.le_refl _)) dJ7_fill_53178_13 (fun H locs hG hS hq9 => ?_)
        obtain ⟨v26, h_v26, e_v26⟩ := tk_inc v1 1 (by decide) (by omega) (by omega)
        refine lv_iinc (v := v26) (lv' := [(2, .int v26), (3, .int 8), (0, .ref a0), (1, .int p1)]) hx hb dJ7_fill_53178_14 hl (k := 1) rfl e_v26 (by decide) rfl (fun ls hl => ?_)
        refine lv_goto (tgt := 5) hx hb dJ7_fill_53178_17 (by decide) ?_
        exact ih_l23 v26 _ _ (by omega) (by omega) (by omega) hG hS _ (lv_sub hl [1, 0, 2, 3] rfl)
  have hk_0 : (0 : Int32).toInt = 0 := by decide
  exact hl23 9 0 _ _ (by omega) (by omega) (by omega) hG hS _ (lv_sub hl [0, 1, 2, 3] rfl)
theorem dX0_draw_0 : decode cX0_draw 0 = .ok (.aload_n 0, 1) := by decide +kernel
theorem dX0_draw_1 : decode cX0_draw 1 = .ok (.aload_n 0, 1) := by decide +kernel
theorem dX0_draw_2 : decode cX0_draw 2 = .ok (.getfield 33, 3) := by decide +kernel
theorem dX0_draw_5 : decode cX0_draw 5 = .ok (.i2l, 1) := by decide +kernel
theorem dX0_draw_6 : decode cX0_draw 6 = .ok (.ldc2_w 70, 3) := by decide +kernel
theorem dX0_draw_9 : decode cX0_draw 9 = .ok (.lmul, 1) := by decide +kernel
theorem dX0_draw_10 : decode cX0_draw 10 = .ok (.ldc2_w 72, 3) := by decide +kernel
theorem dX0_draw_13 : decode cX0_draw 13 = .ok (.ladd, 1) := by decide +kernel
theorem dX0_draw_14 : decode cX0_draw 14 = .ok (.ldc2_w 74, 3) := by decide +kernel
theorem dX0_draw_17 : decode cX0_draw 17 = .ok (.lrem, 1) := by decide +kernel
theorem dX0_draw_18 : decode cX0_draw 18 = .ok (.l2i, 1) := by decide +kernel
theorem dX0_draw_19 : decode cX0_draw 19 = .ok (.putfield 33, 3) := by decide +kernel
theorem dX0_draw_22 : decode cX0_draw 22 = .ok (.iload_n 1, 1) := by decide +kernel
theorem dX0_draw_23 : decode cX0_draw 23 = .ok (.ifCond .le 12, 3) := by decide +kernel
theorem dX0_draw_35 : decode cX0_draw 35 = .ok (.iconst 0, 1) := by decide +kernel
theorem dX0_draw_36 : decode cX0_draw 36 = .ok (.ireturn, 1) := by decide +kernel
theorem dX0_draw_26 : decode cX0_draw 26 = .ok (.aload_n 0, 1) := by decide +kernel
theorem dX0_draw_27 : decode cX0_draw 27 = .ok (.getfield 33, 3) := by decide +kernel
theorem dX0_draw_30 : decode cX0_draw 30 = .ok (.iload_n 1, 1) := by decide +kernel
theorem dX0_draw_31 : decode cX0_draw 31 = .ok (.irem, 1) := by decide +kernel
theorem dX0_draw_32 : decode cX0_draw 32 = .ok (.goto 4, 3) := by decide +kernel
set_option maxHeartbeats 4000000 in
set_option maxRecDepth 100000 in
theorem k_X0_draw (l : Launch) (D : va_G) (cy : Nat → ClassId) (ld : Nat → Nat) (t : tk_T) (a0 : Nat) (p1 : Int32) (ht_a0 : t a0 = (1, 0, 0)) : Met l yX0_draw (wl yX0_draw cX0_draw 2 (some .int)) ({ frames := 3, cells := 0, slots := 0, locals := 140 }) (tp D cy ld t [] [.ref a0, .int p1] (fun H => True)) (ti D cy ld t [] (fun r H => 0 ≤ r.toInt ∧ (1 ≤ p1.toInt → 0 ≤ p1.toInt + (-1) * r.toInt + (-1)) ∧ 0 ≤ r.toInt ∧ r.toInt ≤ 2147483646) (tk_w t [(1, 0, 0)])) 0 0 (tk_w t [(1, 0, 0)]) := by
  refine tk_met (y := yX0_draw) (cc := cX0_draw) (maxL := 2) (ret := (some .int)) (av := [.ref a0, .int p1]) _ _ (by decide) (Nat.le_of_ble_eq_true rfl) ?_
  intro p e s m args below meth c hx hb hr hml hts htl hown hlocks hK H locs hH hG hS hB hZ ls hl
  have hown : s.vm.findClass RX0 = some m.cls := hown
  have hl : lv_has ls 2 [(0, .ref a0), (1, .int p1)] := hl
  have hr_p1 := tk_rng p1
  refine lv_aload_n hx hb dX0_draw_0 rfl (lv_at hl 0 rfl) ?_
  refine lv_aload_n hx hb dX0_draw_1 rfl (lv_at hl 0 rfl) ?_
  refine tk_get (ci := 0) (C := RX0) (T := TX0) (N := 7) (sp := (0, 0, 1000002, 0)) hx hb htl inX0 hown hK hG ht_a0 (by decide) tk_no rfl 6 (by decide) (htl _ mw_1640) (fun _ h9 => h9) rfl dX0_draw_2 (fun v9 hf1 hV9 => ?_)
  obtain ⟨v2, rfl, (ha_v2 : 0 ≤ v2.toInt), (hb_v2 : v2.toInt ≤ 1000002)⟩ := hV9
  obtain ⟨w3, e_w3, h_w3⟩ : ∃ z : Int64, v2.toInt64 = z ∧ z.toInt = v2.toInt := ⟨_, rfl, fl_w _⟩
  refine lv_i2l (v := w3) hx hb dX0_draw_5 e_w3 ?_
  refine lv_ldc2 hx hb hown (htl _ mw_1661) dX0_draw_6 ?_
  refine lv_lmul hx hb dX0_draw_9 ?_
  refine tk_lmul rfl (show (1103 : Int64).toInt = 1103 by decide) (by omega) (by omega) (fun w4 h_w4 => ?_)
  refine lv_ldc2 hx hb hown (htl _ mw_1662) dX0_draw_10 ?_
  refine lv_ladd hx hb dX0_draw_13 ?_
  refine tk_ladd rfl (show (12345 : Int64).toInt = 12345 by decide) (by omega) (by omega) (fun w5 h_w5 => ?_)
  refine lv_ldc2 hx hb hown (htl _ mw_1663) dX0_draw_14 ?_
  refine lv_lrem hx hb dX0_draw_17 (by decide) ?_
  refine tk_sayl (P := fun z => 0 ≤ z.toInt ∧ z.toInt < 1000003) (tk_remL rfl (show (1000003 : Int64).toInt = 1000003 by decide) (by omega) (by omega)) (fun w6 h_w6 => ?_)
  obtain ⟨v7, e_v7, h_v7⟩ : ∃ z : Int32, w6.toInt32 = z ∧ z.toInt = w6.toInt := ⟨_, rfl, tk_l2i (by omega) (by omega)⟩
  refine lv_l2i (v := v7) hx hb dX0_draw_18 e_v7 ?_
  refine tk_put (ci := 0) (v := .int v7) (ty := .int) (C := RX0) (T := TX0) (N := 7) (sp := (0, 0, 1000002, 0)) hx hb htl inX0 tyX0 tyX0_ok nmX0 hown hK hG hS ht_a0 (by decide) tk_no rfl 6 (by decide) (htl _ mw_1640) (fun _ h9 => h9) rfl (tyX0_ok 6 (by decide)) rfl rfl rfl (tk_V0 (by omega) (by omega)) (fun _ h => h) (tk_w.of ht_a0 (by decide) (List.mem_of_getElem? (i := 0) rfl) (Nat.le_refl _) (Nat.le_refl _)) dX0_draw_19 (fun H locs hG hS hf8 hq9 hj9 => ?_)
  refine lv_iload_n hx hb dX0_draw_22 rfl (lv_at hl 1 rfl) ?_
  refine lv_if_le (tgt := 35) hx hb dX0_draw_23 (by decide) (fun c9 => ?_) (fun c9 => ?_)
  · have hc10 : p1.toInt ≤ 0 := (fi_le rfl (show (0 : Int32).toInt = 0 by decide)).mp c9
    refine lv_iconst (v := 0) hx hb dX0_draw_35 (by decide) ?_
    have hk_0 : (0 : Int32).toInt = 0 := by decide
    exact tk_iret (v := 0) hx hb hr rfl hlocks (show 0 ≤ (0 : Int32).toInt ∧ (1 ≤ p1.toInt → 0 ≤ p1.toInt + (-1) * (0 : Int32).toInt + (-1)) ∧ 0 ≤ (0 : Int32).toInt ∧ (0 : Int32).toInt ≤ 2147483646 from ⟨(by omega), (fun _ => by omega), (by omega), (by omega)⟩) hG hS dX0_draw_36
  · have hc10 : ¬ (p1.toInt ≤ 0) := fun h9 => c9 ((fi_le rfl (show (0 : Int32).toInt = 0 by decide)).mpr h9)
    refine lv_aload_n hx hb dX0_draw_26 rfl (lv_at hl 0 rfl) ?_
    refine tk_get (ci := 0) (C := RX0) (T := TX0) (N := 7) (sp := (0, 0, 1000002, 0)) hx hb htl inX0 hown hK hG ht_a0 (by decide) tk_no rfl 6 (by decide) (htl _ mw_1640) (fun _ h9 => h9) rfl dX0_draw_27 (fun v9 hf11 hV9 => ?_)
    obtain ⟨v12, rfl, (ha_v12 : 0 ≤ v12.toInt), (hb_v12 : v12.toInt ≤ 1000002)⟩ := hV9
    refine lv_iload_n hx hb dX0_draw_30 rfl (lv_at hl 1 rfl) ?_
    refine lv_irem hx hb dX0_draw_31 (fun h9 => absurd ((fi_eq rfl (show (0 : Int32).toInt = 0 by decide)).mp h9) (by omega)) ?_
    refine tk_say (P := fun z => 0 ≤ z.toInt ∧ z.toInt < p1.toInt) (tk_rem rfl rfl (by omega) (by omega)) (fun v13 h_v13 => ?_)
    refine lv_goto (tgt := 36) hx hb dX0_draw_32 (by decide) ?_
    exact tk_iret (v := v13) hx hb hr rfl hlocks (show 0 ≤ v13.toInt ∧ (1 ≤ p1.toInt → 0 ≤ p1.toInt + (-1) * v13.toInt + (-1)) ∧ 0 ≤ v13.toInt ∧ v13.toInt ≤ 2147483646 from ⟨(by omega), (fun _ => by omega), (by omega), (by omega)⟩) hG hS dX0_draw_36
theorem dX2_lawInForce_0 : decode cX2_lawInForce 0 = .ok (.aload_n 0, 1) := by decide +kernel
theorem dX2_lawInForce_1 : decode cX2_lawInForce 1 = .ok (.getfield 45, 3) := by decide +kernel
theorem dX2_lawInForce_4 : decode cX2_lawInForce 4 = .ok (.ifCond .lt 26, 3) := by decide +kernel
theorem dX2_lawInForce_30 : decode cX2_lawInForce 30 = .ok (.aconst_null, 1) := by decide +kernel
theorem dX2_lawInForce_31 : decode cX2_lawInForce 31 = .ok (.areturn, 1) := by decide +kernel
theorem dX2_lawInForce_7 : decode cX2_lawInForce 7 = .ok (.aload_n 0, 1) := by decide +kernel
theorem dX2_lawInForce_8 : decode cX2_lawInForce 8 = .ok (.getfield 45, 3) := by decide +kernel
theorem dX2_lawInForce_11 : decode cX2_lawInForce 11 = .ok (.aload_n 0, 1) := by decide +kernel
theorem dX2_lawInForce_12 : decode cX2_lawInForce 12 = .ok (.getfield 80, 3) := by decide +kernel
theorem dX2_lawInForce_15 : decode cX2_lawInForce 15 = .ok (.if_icmp .ge 15, 3) := by decide +kernel
theorem dX2_lawInForce_18 : decode cX2_lawInForce 18 = .ok (.aload_n 0, 1) := by decide +kernel
theorem dX2_lawInForce_19 : decode cX2_lawInForce 19 = .ok (.getfield 41, 3) := by decide +kernel
theorem dX2_lawInForce_22 : decode cX2_lawInForce 22 = .ok (.aload_n 0, 1) := by decide +kernel
theorem dX2_lawInForce_23 : decode cX2_lawInForce 23 = .ok (.getfield 45, 3) := by decide +kernel
theorem dX2_lawInForce_26 : decode cX2_lawInForce 26 = .ok (.aaload, 1) := by decide +kernel
theorem dX2_lawInForce_27 : decode cX2_lawInForce 27 = .ok (.goto 4, 3) := by decide +kernel
set_option maxHeartbeats 4000000 in
set_option maxRecDepth 100000 in
theorem k_X2_lawInForce (l : Launch) (D : va_G) (cy : Nat → ClassId) (ld : Nat → Nat) (t : tk_T) (a0 : Nat) (ht_a0 : t a0 = (3, 0, 0)) : Met l yX2_lawInForce (wl yX2_lawInForce cX2_lawInForce 1 (some (.object "CradleDuel$Script"))) ({ frames := 3, cells := 0, slots := 0, locals := 140 }) (tp D cy ld t [] [.ref a0] (fun H => True)) (tq D cy ld t [] (fun r H => (∀ b : Nat, r = some b → ∃ n r : Nat, t b = (8, n, r))) (tk_w t [])) 0 0 (tk_w t []) := by
  refine tk_met (y := yX2_lawInForce) (cc := cX2_lawInForce) (maxL := 1) (ret := (some (.object "CradleDuel$Script"))) (av := [.ref a0]) _ _ (by decide) (Nat.le_of_ble_eq_true rfl) ?_
  intro p e s m args below meth c hx hb hr hml hts htl hown hlocks hK H locs hH hG hS hB hZ ls hl
  have hown : s.vm.findClass RX2 = some m.cls := hown
  have hl : lv_has ls 1 [(0, .ref a0)] := hl
  refine lv_aload_n hx hb dX2_lawInForce_0 rfl (lv_at hl 0 rfl) ?_
  refine tk_get (ci := 2) (C := RX2) (T := TX2) (N := 20) (sp := (0, (-2147483648), 2147483647, 0)) hx hb htl inX2 hown hK hG ht_a0 (by decide) tk_no rfl 15 (by decide) (htl _ mw_71) (fun _ h9 => h9) rfl dX2_lawInForce_1 (fun v9 hf1 hV9 => ?_)
  obtain ⟨v2, rfl, (ha_v2 : (-2147483648) ≤ v2.toInt), (hb_v2 : v2.toInt ≤ 2147483647)⟩ := hV9
  refine lv_if_lt (tgt := 30) hx hb dX2_lawInForce_4 (by decide) (fun c9 => ?_) (fun c9 => ?_)
  · have hc3 : v2.toInt < 0 := (fi_lt rfl (show (0 : Int32).toInt = 0 by decide)).mp c9
    refine lv_null hx hb dX2_lawInForce_30 ?_
    exact tk_qret (o := none) hx hb hr (Or.inl ⟨_, rfl⟩) rfl hlocks (fun b h => by cases h) hG hS dX2_lawInForce_31
  · have hc3 : ¬ (v2.toInt < 0) := fun h9 => c9 ((fi_lt rfl (show (0 : Int32).toInt = 0 by decide)).mpr h9)
    refine lv_aload_n hx hb dX2_lawInForce_7 rfl (lv_at hl 0 rfl) ?_
    refine tk_getk (ci := 2) (C := RX2) (T := TX2) (N := 20) (sp := (0, (-2147483648), 2147483647, 0)) hx hb htl inX2 hown hK hG ht_a0 (by decide) tk_no rfl 15 (by decide) (htl _ mw_71) (fun _ h9 => h9) rfl hf1 dX2_lawInForce_8 ?_
    refine lv_aload_n hx hb dX2_lawInForce_11 rfl (lv_at hl 0 rfl) ?_
    refine tk_get (ci := 2) (C := RX2) (T := TX2) (N := 20) (sp := (0, 0, 6, 0)) hx hb htl inX2 hown hK hG ht_a0 (by decide) tk_no rfl 13 (by decide) (htl _ mw_663) (fun _ h9 => h9) rfl dX2_lawInForce_12 (fun v9 hf4 hV9 => ?_)
    obtain ⟨v5, rfl, (ha_v5 : 0 ≤ v5.toInt), (hb_v5 : v5.toInt ≤ 6)⟩ := hV9
    refine lv_icmp_ge (tgt := 30) hx hb dX2_lawInForce_15 (by decide) (fun c9 => ?_) (fun c9 => ?_)
    · have hc6 : v5.toInt ≤ v2.toInt := (fi_le rfl rfl).mp c9
      refine lv_null hx hb dX2_lawInForce_30 ?_
      exact tk_qret (o := none) hx hb hr (Or.inl ⟨_, rfl⟩) rfl hlocks (fun b h => by cases h) hG hS dX2_lawInForce_31
    · have hc6 : ¬ (v5.toInt ≤ v2.toInt) := fun h9 => c9 ((fi_le rfl rfl).mpr h9)
      refine lv_aload_n hx hb dX2_lawInForce_18 rfl (lv_at hl 0 rfl) ?_
      refine tk_get (ci := 2) (C := RX2) (T := TX2) (N := 20) (sp := (1, 28, 6, 0)) hx hb htl inX2 hown hK hG ht_a0 (by decide) tk_no rfl 14 (by decide) (htl _ mw_70) (fun _ h9 => h9) rfl dX2_lawInForce_19 (fun v9 hf7 hV9 => ?_)
      obtain ⟨b8, rfl, ht_b8⟩ := hV9
      have ht_b8 : t b8 = (28, 6, 0) := ht_b8
      refine lv_aload_n hx hb dX2_lawInForce_22 rfl (lv_at hl 0 rfl) ?_
      refine tk_getk (ci := 2) (C := RX2) (T := TX2) (N := 20) (sp := (0, (-2147483648), 2147483647, 0)) hx hb htl inX2 hown hK hG ht_a0 (by decide) tk_no rfl 15 (by decide) (htl _ mw_71) (fun _ h9 => h9) rfl hf1 dX2_lawInForce_23 ?_
      refine tk_aald hx hb hK hG 5 rfl rfl ht_b8 (by decide) (fun _ h => h) tk_no rfl (by omega) (by omega) dX2_lawInForce_26 (fun o9 ht_o9 => ?_)
      refine lv_goto (tgt := 31) hx hb dX2_lawInForce_27 (by decide) ?_
      exact tk_qret (o := o9) hx hb hr (Or.inl ⟨_, rfl⟩) rfl hlocks ht_o9 hG hS dX2_lawInForce_31
theorem dX7_has_0 : decode cX7_has 0 = .ok (.aload_n 0, 1) := by decide +kernel
theorem dX7_has_1 : decode cX7_has 1 = .ok (.getfield 37, 3) := by decide +kernel
theorem dX7_has_4 : decode cX7_has 4 = .ok (.iload_n 1, 1) := by decide +kernel
theorem dX7_has_5 : decode cX7_has 5 = .ok (.ishr, 1) := by decide +kernel
theorem dX7_has_6 : decode cX7_has 6 = .ok (.iconst 1, 1) := by decide +kernel
theorem dX7_has_7 : decode cX7_has 7 = .ok (.iand, 1) := by decide +kernel
theorem dX7_has_8 : decode cX7_has 8 = .ok (.iconst 1, 1) := by decide +kernel
theorem dX7_has_9 : decode cX7_has 9 = .ok (.if_icmp .ne 7, 3) := by decide +kernel
theorem dX7_has_16 : decode cX7_has 16 = .ok (.iconst 0, 1) := by decide +kernel
theorem dX7_has_17 : decode cX7_has 17 = .ok (.ireturn, 1) := by decide +kernel
theorem dX7_has_12 : decode cX7_has 12 = .ok (.iconst 1, 1) := by decide +kernel
theorem dX7_has_13 : decode cX7_has 13 = .ok (.goto 4, 3) := by decide +kernel
set_option maxHeartbeats 4000000 in
set_option maxRecDepth 100000 in
theorem k_X7_has (l : Launch) (D : va_G) (cy : Nat → ClassId) (ld : Nat → Nat) (t : tk_T) (sn0 : Nat) (sr0 : Nat) (a0 : Nat) (p1 : Int32) (ht_a0 : t a0 = (8, sn0, sr0)) : Met l yX7_has (wl yX7_has cX7_has 2 (some .boolean)) ({ frames := 3, cells := 0, slots := 0, locals := 140 }) (tp D cy ld t [] [.ref a0, .int p1] (fun H => True)) (ti D cy ld t [] (fun r H => 0 ≤ r.toInt ∧ r.toInt ≤ 1 ∧ 0 ≤ r.toInt ∧ r.toInt ≤ 1) (tk_w t [])) 0 0 (tk_w t []) := by
  refine tk_met (y := yX7_has) (cc := cX7_has) (maxL := 2) (ret := (some .boolean)) (av := [.ref a0, .int p1]) _ _ (by decide) (Nat.le_of_ble_eq_true rfl) ?_
  intro p e s m args below meth c hx hb hr hml hts htl hown hlocks hK H locs hH hG hS hB hZ ls hl
  have hown : s.vm.findClass RX7 = some m.cls := hown
  have hl : lv_has ls 2 [(0, .ref a0), (1, .int p1)] := hl
  have hr_p1 := tk_rng p1
  have hb_a0 := tk_X8 hG ht_a0 tk_no
  refine lv_aload_n hx hb dX7_has_0 rfl (lv_at hl 0 rfl) ?_
  refine tk_get (ci := 7) (C := RX7) (T := TX7) (N := 10) (sp := (0, (-2147483648), 2147483647, 0)) hx hb htl inX7 hown hK hG ht_a0 (by decide) tk_no rfl 8 (by decide) (htl _ mw_489) (fun _ h9 => h9) rfl dX7_has_1 (fun v9 hf1 hV9 => ?_)
  obtain ⟨v2, rfl, (ha_v2 : (-2147483648) ≤ v2.toInt), (hb_v2 : v2.toInt ≤ 2147483647)⟩ := hV9
  refine lv_iload_n hx hb dX7_has_4 rfl (lv_at hl 1 rfl) ?_
  refine lv_ishr hx hb dX7_has_5 ?_
  refine tk_any (fun v3 => ?_)
  refine lv_iconst (v := 1) hx hb dX7_has_6 (by decide) ?_
  refine lv_iand hx hb dX7_has_7 ?_
  refine tk_say (P := fun z => 0 ≤ z.toInt ∧ z.toInt ≤ 1) (tk_and v3 1 (by decide) (by decide)) (fun v4 h_v4 => ?_)
  refine lv_iconst (v := 1) hx hb dX7_has_8 (by decide) ?_
  refine lv_icmp_ne (tgt := 16) hx hb dX7_has_9 (by decide) (fun c9 => ?_) (fun c9 => ?_)
  · have hc5 : ¬ (v4.toInt = 1) := fun h9 => c9 ((fi_eq rfl (show (1 : Int32).toInt = 1 by decide)).mpr h9)
    refine lv_iconst (v := 0) hx hb dX7_has_16 (by decide) ?_
    have hk_0 : (0 : Int32).toInt = 0 := by decide
    exact tk_iret (v := 0) hx hb hr rfl hlocks (show 0 ≤ (0 : Int32).toInt ∧ (0 : Int32).toInt ≤ 1 ∧ 0 ≤ (0 : Int32).toInt ∧ (0 : Int32).toInt ≤ 1 from ⟨(by omega), (by omega), (by omega), (by omega)⟩) hG hS dX7_has_17
  · have hc5 : v4.toInt = 1 := (fi_eq rfl (show (1 : Int32).toInt = 1 by decide)).mp c9
    refine lv_iconst (v := 1) hx hb dX7_has_12 (by decide) ?_
    refine lv_goto (tgt := 17) hx hb dX7_has_13 (by decide) ?_
    have hk_1 : (1 : Int32).toInt = 1 := by decide
    exact tk_iret (v := 1) hx hb hr rfl hlocks (show 0 ≤ (1 : Int32).toInt ∧ (1 : Int32).toInt ≤ 1 ∧ 0 ≤ (1 : Int32).toInt ∧ (1 : Int32).toInt ≤ 1 from ⟨(by omega), (by omega), (by omega), (by omega)⟩) hG hS dX7_has_17
theorem dX11_workOut_0 : decode cX11_workOut 0 = .ok (.aload_n 0, 1) := by decide +kernel
theorem dX11_workOut_1 : decode cX11_workOut 1 = .ok (.iconst 1, 1) := by decide +kernel
theorem dX11_workOut_2 : decode cX11_workOut 2 = .ok (.putfield 18, 3) := by decide +kernel
theorem dX11_workOut_5 : decode cX11_workOut 5 = .ok (.iconst (-1), 1) := by decide +kernel
theorem dX11_workOut_6 : decode cX11_workOut 6 = .ok (.istore_n 3, 1) := by decide +kernel
theorem dX11_workOut_7 : decode cX11_workOut 7 = .ok (.iload_n 2, 1) := by decide +kernel
theorem dX11_workOut_8 : decode cX11_workOut 8 = .ok (.istore 4, 2) := by decide +kernel
theorem dX11_workOut_10 : decode cX11_workOut 10 = .ok (.iload 4, 2) := by decide +kernel
theorem dX11_workOut_12 : decode cX11_workOut 12 = .ok (.ifCond .lt 447, 3) := by decide +kernel
theorem dX11_workOut_459 : decode cX11_workOut 459 = .ok (.iconst 0, 1) := by decide +kernel
theorem dX11_workOut_460 : decode cX11_workOut 460 = .ok (.ireturn, 1) := by decide +kernel
theorem dX11_workOut_15 : decode cX11_workOut 15 = .ok (.iload 4, 2) := by decide +kernel
theorem dX11_workOut_17 : decode cX11_workOut 17 = .ok (.aload_n 1, 1) := by decide +kernel
theorem dX11_workOut_18 : decode cX11_workOut 18 = .ok (.getfield 22, 3) := by decide +kernel
theorem dX11_workOut_21 : decode cX11_workOut 21 = .ok (.if_icmp .ge 438, 3) := by decide +kernel
theorem dX11_workOut_24 : decode cX11_workOut 24 = .ok (.aload_n 1, 1) := by decide +kernel
theorem dX11_workOut_25 : decode cX11_workOut 25 = .ok (.getfield 28, 3) := by decide +kernel
theorem dX11_workOut_28 : decode cX11_workOut 28 = .ok (.iload 4, 2) := by decide +kernel
theorem dX11_workOut_30 : decode cX11_workOut 30 = .ok (.iaload, 1) := by decide +kernel
theorem dX11_workOut_31 : decode cX11_workOut 31 = .ok (.istore 5, 2) := by decide +kernel
theorem dX11_workOut_33 : decode cX11_workOut 33 = .ok (.aload_n 1, 1) := by decide +kernel
theorem dX11_workOut_34 : decode cX11_workOut 34 = .ok (.getfield 31, 3) := by decide +kernel
theorem dX11_workOut_37 : decode cX11_workOut 37 = .ok (.iload 4, 2) := by decide +kernel
theorem dX11_workOut_39 : decode cX11_workOut 39 = .ok (.iaload, 1) := by decide +kernel
theorem dX11_workOut_40 : decode cX11_workOut 40 = .ok (.istore 6, 2) := by decide +kernel
theorem dX11_workOut_42 : decode cX11_workOut 42 = .ok (.iload 5, 2) := by decide +kernel
theorem dX11_workOut_44 : decode cX11_workOut 44 = .ok (.iconst 1, 1) := by decide +kernel
theorem dX11_workOut_45 : decode cX11_workOut 45 = .ok (.if_icmp .eq 9, 3) := by decide +kernel
theorem dX11_workOut_54 : decode cX11_workOut 54 = .ok (.iinc 3 1, 3) := by decide +kernel
theorem dX11_workOut_57 : decode cX11_workOut 57 = .ok (.iload_n 3, 1) := by decide +kernel
theorem dX11_workOut_58 : decode cX11_workOut 58 = .ok (.aload_n 0, 1) := by decide +kernel
theorem dX11_workOut_59 : decode cX11_workOut 59 = .ok (.getfield 15, 3) := by decide +kernel
theorem dX11_workOut_62 : decode cX11_workOut 62 = .ok (.arraylength, 1) := by decide +kernel
theorem dX11_workOut_63 : decode cX11_workOut 63 = .ok (.if_icmp .ge 24, 3) := by decide +kernel
theorem dX11_workOut_87 : decode cX11_workOut 87 = .ok (.iconst 0, 1) := by decide +kernel
theorem dX11_workOut_88 : decode cX11_workOut 88 = .ok (.ireturn, 1) := by decide +kernel
theorem dX11_workOut_66 : decode cX11_workOut 66 = .ok (.iload 6, 2) := by decide +kernel
theorem dX11_workOut_68 : decode cX11_workOut 68 = .ok (.ifCond .lt 19, 3) := by decide +kernel
theorem dX11_workOut_71 : decode cX11_workOut 71 = .ok (.iload 5, 2) := by decide +kernel
theorem dX11_workOut_73 : decode cX11_workOut 73 = .ok (.iconst 2, 1) := by decide +kernel
theorem dX11_workOut_74 : decode cX11_workOut 74 = .ok (.if_icmp .ne 15, 3) := by decide +kernel
theorem dX11_workOut_89 : decode cX11_workOut 89 = .ok (.aload_n 0, 1) := by decide +kernel
theorem dX11_workOut_90 : decode cX11_workOut 90 = .ok (.getfield 15, 3) := by decide +kernel
theorem dX11_workOut_93 : decode cX11_workOut 93 = .ok (.iload_n 3, 1) := by decide +kernel
theorem dX11_workOut_94 : decode cX11_workOut 94 = .ok (.iload 5, 2) := by decide +kernel
theorem dX11_workOut_96 : decode cX11_workOut 96 = .ok (.iconst 1, 1) := by decide +kernel
theorem dX11_workOut_97 : decode cX11_workOut 97 = .ok (.if_icmp .ne 8, 3) := by decide +kernel
theorem dX11_workOut_100 : decode cX11_workOut 100 = .ok (.iload 6, 2) := by decide +kernel
theorem dX11_workOut_102 : decode cX11_workOut 102 = .ok (.goto 10, 3) := by decide +kernel
theorem dX11_workOut_112 : decode cX11_workOut 112 = .ok (.iastore, 1) := by decide +kernel
theorem dX11_workOut_113 : decode cX11_workOut 113 = .ok (.goto 340, 3) := by decide +kernel
theorem dX11_workOut_453 : decode cX11_workOut 453 = .ok (.iinc 4 1, 3) := by decide +kernel
theorem dX11_workOut_456 : decode cX11_workOut 456 = .ok (.goto (-446), 3) := by decide +kernel
theorem dX11_workOut_48 : decode cX11_workOut 48 = .ok (.iload 5, 2) := by decide +kernel
theorem dX11_workOut_50 : decode cX11_workOut 50 = .ok (.iconst 2, 1) := by decide +kernel
theorem dX11_workOut_51 : decode cX11_workOut 51 = .ok (.if_icmp .ne 65, 3) := by decide +kernel
theorem dX11_workOut_116 : decode cX11_workOut 116 = .ok (.iload_n 3, 1) := by decide +kernel
theorem dX11_workOut_117 : decode cX11_workOut 117 = .ok (.ifCond .ge 5, 3) := by decide +kernel
theorem dX11_workOut_122 : decode cX11_workOut 122 = .ok (.iload 5, 2) := by decide +kernel
theorem dX11_workOut_124 : decode cX11_workOut 124 = .ok (.ifCond .ne 15, 3) := by decide +kernel
theorem dX11_workOut_139 : decode cX11_workOut 139 = .ok (.iload 5, 2) := by decide +kernel
theorem dX11_workOut_141 : decode cX11_workOut 141 = .ok (.iconst 3, 1) := by decide +kernel
theorem dX11_workOut_142 : decode cX11_workOut 142 = .ok (.if_icmp .ne 20, 3) := by decide +kernel
theorem dX11_workOut_162 : decode cX11_workOut 162 = .ok (.iload 5, 2) := by decide +kernel
theorem dX11_workOut_164 : decode cX11_workOut 164 = .ok (.iconst 4, 1) := by decide +kernel
theorem dX11_workOut_165 : decode cX11_workOut 165 = .ok (.if_icmp .eq 9, 3) := by decide +kernel
theorem dX11_workOut_174 : decode cX11_workOut 174 = .ok (.aload_n 0, 1) := by decide +kernel
theorem dX11_workOut_175 : decode cX11_workOut 175 = .ok (.getfield 15, 3) := by decide +kernel
theorem dX11_workOut_178 : decode cX11_workOut 178 = .ok (.iload_n 3, 1) := by decide +kernel
theorem dX11_workOut_179 : decode cX11_workOut 179 = .ok (.iaload, 1) := by decide +kernel
theorem dX11_workOut_188 : decode cX11_workOut 188 = .ok (.iload 5, 2) := by decide +kernel
theorem dX11_workOut_190 : decode cX11_workOut 190 = .ok (.iconst 5, 1) := by decide +kernel
theorem dX11_workOut_191 : decode cX11_workOut 191 = .ok (.if_icmp .ne 7, 3) := by decide +kernel
theorem dX11_workOut_198 : decode cX11_workOut 198 = .ok (.iconst 0, 1) := by decide +kernel
theorem dX11_workOut_199 : decode cX11_workOut 199 = .ok (.if_icmp .ne 9, 3) := by decide +kernel
theorem dX11_workOut_208 : decode cX11_workOut 208 = .ok (.iload 6, 2) := by decide +kernel
theorem dX11_workOut_210 : decode cX11_workOut 210 = .ok (.iload 4, 2) := by decide +kernel
theorem dX11_workOut_212 : decode cX11_workOut 212 = .ok (.if_icmp .le 241, 3) := by decide +kernel
theorem dX11_workOut_215 : decode cX11_workOut 215 = .ok (.iload 6, 2) := by decide +kernel
theorem dX11_workOut_217 : decode cX11_workOut 217 = .ok (.iconst 1, 1) := by decide +kernel
theorem dX11_workOut_218 : decode cX11_workOut 218 = .ok (.isub, 1) := by decide +kernel
theorem dX11_workOut_219 : decode cX11_workOut 219 = .ok (.istore 4, 2) := by decide +kernel
theorem dX11_workOut_221 : decode cX11_workOut 221 = .ok (.goto 232, 3) := by decide +kernel
theorem dX11_workOut_202 : decode cX11_workOut 202 = .ok (.iinc 3 (-1), 3) := by decide +kernel
theorem dX11_workOut_205 : decode cX11_workOut 205 = .ok (.goto 248, 3) := by decide +kernel
theorem dX11_workOut_180 : decode cX11_workOut 180 = .ok (.ifCond .ne 7, 3) := by decide +kernel
theorem dX11_workOut_187 : decode cX11_workOut 187 = .ok (.iconst 0, 1) := by decide +kernel
theorem dX11_workOut_183 : decode cX11_workOut 183 = .ok (.iconst 1, 1) := by decide +kernel
theorem dX11_workOut_184 : decode cX11_workOut 184 = .ok (.goto 4, 3) := by decide +kernel
theorem dX11_workOut_168 : decode cX11_workOut 168 = .ok (.iload 5, 2) := by decide +kernel
theorem dX11_workOut_170 : decode cX11_workOut 170 = .ok (.iconst 5, 1) := by decide +kernel
theorem dX11_workOut_171 : decode cX11_workOut 171 = .ok (.if_icmp .ne 53, 3) := by decide +kernel
theorem dX11_workOut_224 : decode cX11_workOut 224 = .ok (.iload_n 3, 1) := by decide +kernel
theorem dX11_workOut_225 : decode cX11_workOut 225 = .ok (.iconst 1, 1) := by decide +kernel
theorem dX11_workOut_226 : decode cX11_workOut 226 = .ok (.if_icmp .ge 5, 3) := by decide +kernel
theorem dX11_workOut_231 : decode cX11_workOut 231 = .ok (.aload_n 0, 1) := by decide +kernel
theorem dX11_workOut_232 : decode cX11_workOut 232 = .ok (.getfield 15, 3) := by decide +kernel
theorem dX11_workOut_235 : decode cX11_workOut 235 = .ok (.iload_n 3, 1) := by decide +kernel
theorem dX11_workOut_236 : decode cX11_workOut 236 = .ok (.iconst 1, 1) := by decide +kernel
theorem dX11_workOut_237 : decode cX11_workOut 237 = .ok (.isub, 1) := by decide +kernel
theorem dX11_workOut_238 : decode cX11_workOut 238 = .ok (.iaload, 1) := by decide +kernel
theorem dX11_workOut_239 : decode cX11_workOut 239 = .ok (.i2l, 1) := by decide +kernel
theorem dX11_workOut_240 : decode cX11_workOut 240 = .ok (.lstore 7, 2) := by decide +kernel
theorem dX11_workOut_242 : decode cX11_workOut 242 = .ok (.aload_n 0, 1) := by decide +kernel
theorem dX11_workOut_243 : decode cX11_workOut 243 = .ok (.getfield 15, 3) := by decide +kernel
theorem dX11_workOut_246 : decode cX11_workOut 246 = .ok (.iload_n 3, 1) := by decide +kernel
theorem dX11_workOut_247 : decode cX11_workOut 247 = .ok (.iaload, 1) := by decide +kernel
theorem dX11_workOut_248 : decode cX11_workOut 248 = .ok (.i2l, 1) := by decide +kernel
theorem dX11_workOut_249 : decode cX11_workOut 249 = .ok (.lstore 9, 2) := by decide +kernel
theorem dX11_workOut_251 : decode cX11_workOut 251 = .ok (.lload 9, 2) := by decide +kernel
theorem dX11_workOut_253 : decode cX11_workOut 253 = .ok (.lconst 0, 1) := by decide +kernel
theorem dX11_workOut_254 : decode cX11_workOut 254 = .ok (.lcmp, 1) := by decide +kernel
theorem dX11_workOut_255 : decode cX11_workOut 255 = .ok (.ifCond .ne 19, 3) := by decide +kernel
theorem dX11_workOut_274 : decode cX11_workOut 274 = .ok (.iload 5, 2) := by decide +kernel
theorem dX11_workOut_421 : decode cX11_workOut 421 = .ok (.lload 11, 2) := by decide +kernel
theorem dX11_workOut_423 : decode cX11_workOut 423 = .ok (.ldc2_w 34, 3) := by decide +kernel
theorem dX11_workOut_426 : decode cX11_workOut 426 = .ok (.lcmp, 1) := by decide +kernel
theorem dX11_workOut_427 : decode cX11_workOut 427 = .ok (.ifCond .gt 12, 3) := by decide +kernel
theorem dX11_workOut_439 : decode cX11_workOut 439 = .ok (.iconst 0, 1) := by decide +kernel
theorem dX11_workOut_440 : decode cX11_workOut 440 = .ok (.ireturn, 1) := by decide +kernel
theorem dX11_workOut_430 : decode cX11_workOut 430 = .ok (.lload 11, 2) := by decide +kernel
theorem dX11_workOut_432 : decode cX11_workOut 432 = .ok (.ldc2_w 36, 3) := by decide +kernel
theorem dX11_workOut_435 : decode cX11_workOut 435 = .ok (.lcmp, 1) := by decide +kernel
theorem dX11_workOut_436 : decode cX11_workOut 436 = .ok (.ifCond .ge 5, 3) := by decide +kernel
theorem dX11_workOut_441 : decode cX11_workOut 441 = .ok (.iinc 3 (-1), 3) := by decide +kernel
theorem dX11_workOut_444 : decode cX11_workOut 444 = .ok (.aload_n 0, 1) := by decide +kernel
theorem dX11_workOut_445 : decode cX11_workOut 445 = .ok (.getfield 15, 3) := by decide +kernel
theorem dX11_workOut_448 : decode cX11_workOut 448 = .ok (.iload_n 3, 1) := by decide +kernel
theorem dX11_workOut_449 : decode cX11_workOut 449 = .ok (.lload 11, 2) := by decide +kernel
theorem dX11_workOut_451 : decode cX11_workOut 451 = .ok (.l2i, 1) := by decide +kernel
theorem dX11_workOut_452 : decode cX11_workOut 452 = .ok (.iastore, 1) := by decide +kernel
theorem dX11_workOut_276 : decode cX11_workOut 276 = .ok (.tableswitch 130 6 12 #[44, 54, 64, 74, 84, 94, 112], 44) := by decide +kernel
theorem dX11_workOut_320 : decode cX11_workOut 320 = .ok (.lload 7, 2) := by decide +kernel
theorem dX11_workOut_322 : decode cX11_workOut 322 = .ok (.lload 9, 2) := by decide +kernel
theorem dX11_workOut_324 : decode cX11_workOut 324 = .ok (.ladd, 1) := by decide +kernel
theorem dX11_workOut_325 : decode cX11_workOut 325 = .ok (.lstore 11, 2) := by decide +kernel
theorem dX11_workOut_327 : decode cX11_workOut 327 = .ok (.goto 94, 3) := by decide +kernel
theorem dX11_workOut_330 : decode cX11_workOut 330 = .ok (.lload 7, 2) := by decide +kernel
theorem dX11_workOut_332 : decode cX11_workOut 332 = .ok (.lload 9, 2) := by decide +kernel
theorem dX11_workOut_334 : decode cX11_workOut 334 = .ok (.lsub, 1) := by decide +kernel
theorem dX11_workOut_335 : decode cX11_workOut 335 = .ok (.lstore 11, 2) := by decide +kernel
theorem dX11_workOut_337 : decode cX11_workOut 337 = .ok (.goto 84, 3) := by decide +kernel
theorem dX11_workOut_340 : decode cX11_workOut 340 = .ok (.lload 7, 2) := by decide +kernel
theorem dX11_workOut_342 : decode cX11_workOut 342 = .ok (.lload 9, 2) := by decide +kernel
theorem dX11_workOut_344 : decode cX11_workOut 344 = .ok (.lmul, 1) := by decide +kernel
theorem dX11_workOut_345 : decode cX11_workOut 345 = .ok (.lstore 11, 2) := by decide +kernel
theorem dX11_workOut_347 : decode cX11_workOut 347 = .ok (.goto 74, 3) := by decide +kernel
theorem dX11_workOut_350 : decode cX11_workOut 350 = .ok (.lload 7, 2) := by decide +kernel
theorem dX11_workOut_352 : decode cX11_workOut 352 = .ok (.lload 9, 2) := by decide +kernel
theorem dX11_workOut_354 : decode cX11_workOut 354 = .ok (.ldiv, 1) := by decide +kernel
theorem dX11_workOut_355 : decode cX11_workOut 355 = .ok (.lstore 11, 2) := by decide +kernel
theorem dX11_workOut_357 : decode cX11_workOut 357 = .ok (.goto 64, 3) := by decide +kernel
theorem dX11_workOut_360 : decode cX11_workOut 360 = .ok (.lload 7, 2) := by decide +kernel
theorem dX11_workOut_362 : decode cX11_workOut 362 = .ok (.lload 9, 2) := by decide +kernel
theorem dX11_workOut_364 : decode cX11_workOut 364 = .ok (.lrem, 1) := by decide +kernel
theorem dX11_workOut_365 : decode cX11_workOut 365 = .ok (.lstore 11, 2) := by decide +kernel
theorem dX11_workOut_367 : decode cX11_workOut 367 = .ok (.goto 54, 3) := by decide +kernel
theorem dX11_workOut_370 : decode cX11_workOut 370 = .ok (.lload 7, 2) := by decide +kernel
theorem dX11_workOut_372 : decode cX11_workOut 372 = .ok (.lload 9, 2) := by decide +kernel
theorem dX11_workOut_374 : decode cX11_workOut 374 = .ok (.lcmp, 1) := by decide +kernel
theorem dX11_workOut_383 : decode cX11_workOut 383 = .ok (.lstore 11, 2) := by decide +kernel
theorem dX11_workOut_385 : decode cX11_workOut 385 = .ok (.goto 36, 3) := by decide +kernel
theorem dX11_workOut_375 : decode cX11_workOut 375 = .ok (.ifCond .ge 7, 3) := by decide +kernel
theorem dX11_workOut_382 : decode cX11_workOut 382 = .ok (.lconst 0, 1) := by decide +kernel
theorem dX11_workOut_378 : decode cX11_workOut 378 = .ok (.lconst 1, 1) := by decide +kernel
theorem dX11_workOut_379 : decode cX11_workOut 379 = .ok (.goto 4, 3) := by decide +kernel
theorem dX11_workOut_388 : decode cX11_workOut 388 = .ok (.lload 7, 2) := by decide +kernel
theorem dX11_workOut_390 : decode cX11_workOut 390 = .ok (.lload 9, 2) := by decide +kernel
theorem dX11_workOut_392 : decode cX11_workOut 392 = .ok (.lcmp, 1) := by decide +kernel
theorem dX11_workOut_401 : decode cX11_workOut 401 = .ok (.lstore 11, 2) := by decide +kernel
theorem dX11_workOut_403 : decode cX11_workOut 403 = .ok (.goto 18, 3) := by decide +kernel
theorem dX11_workOut_393 : decode cX11_workOut 393 = .ok (.ifCond .le 7, 3) := by decide +kernel
theorem dX11_workOut_400 : decode cX11_workOut 400 = .ok (.lconst 0, 1) := by decide +kernel
theorem dX11_workOut_396 : decode cX11_workOut 396 = .ok (.lconst 1, 1) := by decide +kernel
theorem dX11_workOut_397 : decode cX11_workOut 397 = .ok (.goto 4, 3) := by decide +kernel
theorem dX11_workOut_406 : decode cX11_workOut 406 = .ok (.lload 7, 2) := by decide +kernel
theorem dX11_workOut_408 : decode cX11_workOut 408 = .ok (.lload 9, 2) := by decide +kernel
theorem dX11_workOut_410 : decode cX11_workOut 410 = .ok (.lcmp, 1) := by decide +kernel
theorem dX11_workOut_419 : decode cX11_workOut 419 = .ok (.lstore 11, 2) := by decide +kernel
theorem dX11_workOut_411 : decode cX11_workOut 411 = .ok (.ifCond .ne 7, 3) := by decide +kernel
theorem dX11_workOut_418 : decode cX11_workOut 418 = .ok (.lconst 0, 1) := by decide +kernel
theorem dX11_workOut_414 : decode cX11_workOut 414 = .ok (.lconst 1, 1) := by decide +kernel
theorem dX11_workOut_415 : decode cX11_workOut 415 = .ok (.goto 4, 3) := by decide +kernel
theorem dX11_workOut_258 : decode cX11_workOut 258 = .ok (.iload 5, 2) := by decide +kernel
theorem dX11_workOut_260 : decode cX11_workOut 260 = .ok (.bipush 9, 2) := by decide +kernel
theorem dX11_workOut_262 : decode cX11_workOut 262 = .ok (.if_icmp .eq 10, 3) := by decide +kernel
theorem dX11_workOut_272 : decode cX11_workOut 272 = .ok (.iconst 0, 1) := by decide +kernel
theorem dX11_workOut_273 : decode cX11_workOut 273 = .ok (.ireturn, 1) := by decide +kernel
theorem dX11_workOut_265 : decode cX11_workOut 265 = .ok (.iload 5, 2) := by decide +kernel
theorem dX11_workOut_267 : decode cX11_workOut 267 = .ok (.bipush 10, 2) := by decide +kernel
theorem dX11_workOut_269 : decode cX11_workOut 269 = .ok (.if_icmp .ne 5, 3) := by decide +kernel
theorem dX11_workOut_229 : decode cX11_workOut 229 = .ok (.iconst 0, 1) := by decide +kernel
theorem dX11_workOut_230 : decode cX11_workOut 230 = .ok (.ireturn, 1) := by decide +kernel
theorem dX11_workOut_194 : decode cX11_workOut 194 = .ok (.iconst 1, 1) := by decide +kernel
theorem dX11_workOut_195 : decode cX11_workOut 195 = .ok (.goto 4, 3) := by decide +kernel
theorem dX11_workOut_145 : decode cX11_workOut 145 = .ok (.aload_n 0, 1) := by decide +kernel
theorem dX11_workOut_146 : decode cX11_workOut 146 = .ok (.getfield 15, 3) := by decide +kernel
theorem dX11_workOut_149 : decode cX11_workOut 149 = .ok (.iload_n 3, 1) := by decide +kernel
theorem dX11_workOut_150 : decode cX11_workOut 150 = .ok (.iconst 1, 1) := by decide +kernel
theorem dX11_workOut_151 : decode cX11_workOut 151 = .ok (.aload_n 0, 1) := by decide +kernel
theorem dX11_workOut_152 : decode cX11_workOut 152 = .ok (.getfield 15, 3) := by decide +kernel
theorem dX11_workOut_155 : decode cX11_workOut 155 = .ok (.iload_n 3, 1) := by decide +kernel
theorem dX11_workOut_156 : decode cX11_workOut 156 = .ok (.iaload, 1) := by decide +kernel
theorem dX11_workOut_157 : decode cX11_workOut 157 = .ok (.isub, 1) := by decide +kernel
theorem dX11_workOut_158 : decode cX11_workOut 158 = .ok (.iastore, 1) := by decide +kernel
theorem dX11_workOut_159 : decode cX11_workOut 159 = .ok (.goto 294, 3) := by decide +kernel
theorem dX11_workOut_127 : decode cX11_workOut 127 = .ok (.aload_n 0, 1) := by decide +kernel
theorem dX11_workOut_128 : decode cX11_workOut 128 = .ok (.iconst 0, 1) := by decide +kernel
theorem dX11_workOut_129 : decode cX11_workOut 129 = .ok (.putfield 18, 3) := by decide +kernel
theorem dX11_workOut_132 : decode cX11_workOut 132 = .ok (.aload_n 0, 1) := by decide +kernel
theorem dX11_workOut_133 : decode cX11_workOut 133 = .ok (.getfield 15, 3) := by decide +kernel
theorem dX11_workOut_136 : decode cX11_workOut 136 = .ok (.iload_n 3, 1) := by decide +kernel
theorem dX11_workOut_137 : decode cX11_workOut 137 = .ok (.iaload, 1) := by decide +kernel
theorem dX11_workOut_138 : decode cX11_workOut 138 = .ok (.ireturn, 1) := by decide +kernel
theorem dX11_workOut_120 : decode cX11_workOut 120 = .ok (.iconst 0, 1) := by decide +kernel
theorem dX11_workOut_121 : decode cX11_workOut 121 = .ok (.ireturn, 1) := by decide +kernel
theorem dX11_workOut_77 : decode cX11_workOut 77 = .ok (.iload 6, 2) := by decide +kernel
theorem dX11_workOut_79 : decode cX11_workOut 79 = .ok (.aload_n 0, 1) := by decide +kernel
theorem dX11_workOut_80 : decode cX11_workOut 80 = .ok (.getfield 9, 3) := by decide +kernel
theorem dX11_workOut_83 : decode cX11_workOut 83 = .ok (.arraylength, 1) := by decide +kernel
theorem dX11_workOut_84 : decode cX11_workOut 84 = .ok (.if_icmp .lt 5, 3) := by decide +kernel
theorem dX11_workOut_105 : decode cX11_workOut 105 = .ok (.aload_n 0, 1) := by decide +kernel
theorem dX11_workOut_106 : decode cX11_workOut 106 = .ok (.getfield 9, 3) := by decide +kernel
theorem dX11_workOut_109 : decode cX11_workOut 109 = .ok (.iload 6, 2) := by decide +kernel
theorem dX11_workOut_111 : decode cX11_workOut 111 = .ok (.iaload, 1) := by decide +kernel
set_option maxHeartbeats 4000000 in
set_option maxRecDepth 100000 in
theorem k_X11_workOut (l : Launch) (D : va_G) (cy : Nat → ClassId) (ld : Nat → Nat) (t : tk_T) (sn1 : Nat) (sr1 : Nat) (a0 : Nat) (a1 : Nat) (p2 : Int32) (ht_a0 : t a0 = (12, 0, 0)) (ht_a1 : t a1 = (8, sn1, sr1)) : Met l yX11_workOut (wl yX11_workOut cX11_workOut 13 (some .int)) ({ frames := 3, cells := 0, slots := 0, locals := 140 }) (tp D cy ld t [] [.ref a0, .ref a1, .int p2] (fun H => True)) (ti D cy ld t [] (fun r H => True) (tk_w t [(12, 0, 0), (20, 0, 0)])) 0 0 (tk_w t [(12, 0, 0), (20, 0, 0)]) := by
  refine tk_met (y := yX11_workOut) (cc := cX11_workOut) (maxL := 13) (ret := (some .int)) (av := [.ref a0, .ref a1, .int p2]) _ _ (by decide) (Nat.le_of_ble_eq_true rfl) ?_
  intro p e s m args below meth c hx hb hr hml hts htl hown hlocks hK H locs hH hG hS hB hZ ls hl
  have hown : s.vm.findClass RX11 = some m.cls := hown
  have hl : lv_has ls 13 [(0, .ref a0), (1, .ref a1), (2, .int p2)] := hl
  have hr_p2 := tk_rng p2
  have hb_a1 := tk_X8 hG ht_a1 tk_no
  refine lv_aload_n hx hb dX11_workOut_0 rfl (lv_at hl 0 rfl) ?_
  refine lv_iconst (v := 1) hx hb dX11_workOut_1 (by decide) ?_
  refine tk_put (ci := 11) (v := .int 1) (ty := .boolean) (C := RX11) (T := TX11) (N := 3) (sp := (0, 0, 1, 0)) hx hb htl inX11 tyX11 tyX11_ok nmX11 hown hK hG hS ht_a0 (by decide) tk_no rfl 1 (by decide) (htl _ mw_850) (fun _ h9 => h9) rfl (tyX11_ok 1 (by decide)) rfl rfl rfl (tk_V0 (by decide) (by decide)) (fun _ h => h) (tk_w.of ht_a0 (by decide) (List.mem_of_getElem? (i := 0) rfl) (Nat.le_refl _) (Nat.le_refl _)) dX11_workOut_2 (fun H locs hG hS hf1 hq9 hj9 => ?_)
  refine lv_iconst (v := (-1)) hx hb dX11_workOut_5 (by decide) ?_
  refine lv_istore_n (lv' := [(3, .int (-1)), (0, .ref a0), (1, .ref a1), (2, .int p2)]) hx hb dX11_workOut_6 rfl hl (by decide) rfl (fun ls hl => ?_)
  refine lv_iload_n hx hb dX11_workOut_7 rfl (lv_at hl 3 rfl) ?_
  refine lv_istore (lv' := [(4, .int p2), (3, .int (-1)), (0, .ref a0), (1, .ref a1), (2, .int p2)]) hx hb dX11_workOut_8 hl (by decide) rfl (fun ls hl => ?_)
  have hl1085 : ∀ (N_l1085 : Nat) (v3 : Int32) (v4 : Int32) (H : Heap) (locs : List Loc), (-1) ≤ v4.toInt → 0 ≤ (-1) * p2.toInt + v3.toInt → v4.toInt ≤ 31 → (-1) * v3.toInt + 2147483647 < (N_l1085 : Int) → tk_G D cy ld t [] H → va_S (tk_w t [(12, 0, 0), (20, 0, 0)]) s.heap H locs → ∀ ls : Array Slot, lv_has ls 13 [(4, .int v3), (3, .int v4), (0, .ref a0), (1, .ref a1)] → W p l e ({ frames := 3, cells := 0, slots := 0, locals := 140 }) s m args below meth c H locs 0 0 (MQ below (ti D cy ld t [] (fun r H => True) (tk_w t [(12, 0, 0), (20, 0, 0)])) args s 0 0 (tk_w t [(12, 0, 0), (20, 0, 0)])) (F0 m 10 ls []) := by
    intro N_l1085
    induction N_l1085 with
    | zero => intro v3 v4 H locs hq0_l1085 hq1_l1085 hq2_l1085 hm_l1085 hG hS ls hl; exfalso; have hz9 := tk_rng v3; omega
    | succ N_l1085 ih_l1085 =>
      intro v3 v4 H locs hq0_l1085 hq1_l1085 hq2_l1085 hm_l1085 hG hS ls hl
      refine lv_iload hx hb dX11_workOut_10 (lv_at hl 0 rfl) ?_
      refine lv_if_lt (tgt := 459) hx hb dX11_workOut_12 (by decide) (fun c9 => ?_) (fun c9 => ?_)
      · have hc1086 : v3.toInt < 0 := (fi_lt rfl (show (0 : Int32).toInt = 0 by decide)).mp c9
        refine lv_iconst (v := 0) hx hb dX11_workOut_459 (by decide) ?_
        have hk_0 : (0 : Int32).toInt = 0 := by decide
        exact tk_iret (v := 0) hx hb hr rfl hlocks trivial hG hS dX11_workOut_460
      · have hc1086 : ¬ (v3.toInt < 0) := fun h9 => c9 ((fi_lt rfl (show (0 : Int32).toInt = 0 by decide)).mpr h9)
        refine lv_iload hx hb dX11_workOut_15 (lv_at hl 0 rfl) ?_
        refine lv_aload_n hx hb dX11_workOut_17 rfl (lv_at hl 3 rfl) ?_
        refine tk_get (ci := 7) (C := RX7) (T := TX7) (N := 10) (sp := (4, 0, 0, 0)) hx hb htl inX7 hown hK hG ht_a1 (by decide) tk_no rfl 6 (by decide) (htl _ mw_851) (fun _ h9 => h9) rfl dX11_workOut_18 (fun v9 hf1087 hV9 => ?_)
        obtain ⟨v1088, rfl, (ha_v1088 : 0 ≤ v1088.toInt), (hb_v1088 : v1088.toInt ≤ (sn1 : Int))⟩ := hV9
        refine lv_icmp_ge (tgt := 459) hx hb dX11_workOut_21 (by decide) (fun c9 => ?_) (fun c9 => ?_)
        · have hc1089 : v1088.toInt ≤ v3.toInt := (fi_le rfl rfl).mp c9
          refine lv_iconst (v := 0) hx hb dX11_workOut_459 (by decide) ?_
          have hk_0 : (0 : Int32).toInt = 0 := by decide
          exact tk_iret (v := 0) hx hb hr rfl hlocks trivial hG hS dX11_workOut_460
        · have hc1089 : ¬ (v1088.toInt ≤ v3.toInt) := fun h9 => c9 ((fi_le rfl rfl).mpr h9)
          refine lv_aload_n hx hb dX11_workOut_24 rfl (lv_at hl 3 rfl) ?_
          refine tk_get (ci := 7) (C := RX7) (T := TX7) (N := 10) (sp := (2, 20, 0, 0)) hx hb htl inX7 hown hK hG ht_a1 (by decide) tk_no rfl 0 (by decide) (htl _ mw_852) (fun _ h9 => h9) rfl dX11_workOut_25 (fun v9 hf1090 hV9 => ?_)
          obtain ⟨b1091, rfl, ht_b1091⟩ := hV9
          have ht_b1091 : t b1091 = (20, sn1, 0) := ht_b1091
          refine lv_iload hx hb dX11_workOut_28 (lv_at hl 0 rfl) ?_
          refine tk_iald hx hb hK hG ht_b1091 (by decide) (fun _ h => h) tk_no rfl (by omega) (by omega) dX11_workOut_30 (fun v1092 _ _ => ?_)
          have hr_v1092 := tk_rng v1092
          refine lv_istore (lv' := [(5, .int v1092), (4, .int v3), (3, .int v4), (0, .ref a0), (1, .ref a1)]) hx hb dX11_workOut_31 hl (by decide) rfl (fun ls hl => ?_)
          refine lv_aload_n hx hb dX11_workOut_33 rfl (lv_at hl 4 rfl) ?_
          refine tk_get (ci := 7) (C := RX7) (T := TX7) (N := 10) (sp := (2, 20, 0, 0)) hx hb htl inX7 hown hK hG ht_a1 (by decide) tk_no rfl 1 (by decide) (htl _ mw_853) (fun _ h9 => h9) rfl dX11_workOut_34 (fun v9 hf1093 hV9 => ?_)
          obtain ⟨b1094, rfl, ht_b1094⟩ := hV9
          have ht_b1094 : t b1094 = (20, sn1, 0) := ht_b1094
          refine lv_iload hx hb dX11_workOut_37 (lv_at hl 1 rfl) ?_
          refine tk_iald hx hb hK hG ht_b1094 (by decide) (fun _ h => h) tk_no rfl (by omega) (by omega) dX11_workOut_39 (fun v1095 _ _ => ?_)
          have hr_v1095 := tk_rng v1095
          refine lv_istore (lv' := [(6, .int v1095), (5, .int v1092), (4, .int v3), (3, .int v4), (0, .ref a0), (1, .ref a1)]) hx hb dX11_workOut_40 hl (by decide) rfl (fun ls hl => ?_)
          refine lv_iload hx hb dX11_workOut_42 (lv_at hl 1 rfl) ?_
          refine lv_iconst (v := 1) hx hb dX11_workOut_44 (by decide) ?_
          refine lv_icmp_eq (tgt := 54) hx hb dX11_workOut_45 (by decide) (fun c9 => ?_) (fun c9 => ?_)
          · have hc1096 : v1092.toInt = 1 := (fi_eq rfl (show (1 : Int32).toInt = 1 by decide)).mp c9
            obtain ⟨v1097, h_v1097, e_v1097⟩ := tk_inc v4 1 (by decide) (by omega) (by omega)
            refine lv_iinc (v := v1097) (lv' := [(3, .int v1097), (6, .int v1095), (5, .int v1092), (4, .int v3), (0, .ref a0), (1, .ref a1)]) hx hb dX11_workOut_54 hl (k := 3) rfl e_v1097 (by decide) rfl (fun ls hl => ?_)
            refine lv_iload_n hx hb dX11_workOut_57 rfl (lv_at hl 0 rfl) ?_
            refine lv_aload_n hx hb dX11_workOut_58 rfl (lv_at hl 4 rfl) ?_
            refine tk_get (ci := 11) (C := RX11) (T := TX11) (N := 3) (sp := (6, 20, 32, 0)) hx hb htl inX11 hown hK hG ht_a0 (by decide) tk_no rfl 2 (by decide) (htl _ mw_103) (fun _ h9 => h9) rfl dX11_workOut_59 (fun v9 hf1098 hV9 => ?_)
            obtain ⟨b1099, rfl, ht_b1099⟩ := hV9
            have ht_b1099 : t b1099 = (20, 32, 0) := ht_b1099
            refine tk_alen hx hb hK hG 0 rfl ht_b1099 (by decide) (fun _ h => by obtain ⟨f, h, _⟩ := h; exact ⟨_, h⟩) tk_no (by decide) dX11_workOut_62 (fun z hz => ?_)
            obtain rfl : z = 32 := (fi_eq hz (by decide)).mpr rfl
            refine lv_icmp_ge (tgt := 87) hx hb dX11_workOut_63 (by decide) (fun c9 => ?_) (fun c9 => ?_)
            · have hc1100 : 32 ≤ v1097.toInt := (fi_le (show (32 : Int32).toInt = 32 by decide) rfl).mp c9
              refine lv_iconst (v := 0) hx hb dX11_workOut_87 (by decide) ?_
              have hk_0 : (0 : Int32).toInt = 0 := by decide
              exact tk_iret (v := 0) hx hb hr rfl hlocks trivial hG hS dX11_workOut_88
            · have hc1100 : ¬ (32 ≤ v1097.toInt) := fun h9 => c9 ((fi_le (show (32 : Int32).toInt = 32 by decide) rfl).mpr h9)
              refine lv_iload hx hb dX11_workOut_66 (lv_at hl 1 rfl) ?_
              refine lv_if_lt (tgt := 87) hx hb dX11_workOut_68 (by decide) (fun c9 => ?_) (fun c9 => ?_)
              · have hc1101 : v1095.toInt < 0 := (fi_lt rfl (show (0 : Int32).toInt = 0 by decide)).mp c9
                refine lv_iconst (v := 0) hx hb dX11_workOut_87 (by decide) ?_
                have hk_0 : (0 : Int32).toInt = 0 := by decide
                exact tk_iret (v := 0) hx hb hr rfl hlocks trivial hG hS dX11_workOut_88
              · have hc1101 : ¬ (v1095.toInt < 0) := fun h9 => c9 ((fi_lt rfl (show (0 : Int32).toInt = 0 by decide)).mpr h9)
                refine lv_iload hx hb dX11_workOut_71 (lv_at hl 2 rfl) ?_
                refine lv_iconst (v := 2) hx hb dX11_workOut_73 (by decide) ?_
                refine lv_icmp_ne (tgt := 89) hx hb dX11_workOut_74 (by decide) (fun _ => ?_) (fun c9 => absurd (show v1092.toInt = 2 from (fi_eq rfl (show (2 : Int32).toInt = 2 by decide)).mp c9) (by omega))
                refine lv_aload_n hx hb dX11_workOut_89 rfl (lv_at hl 4 rfl) ?_
                refine tk_get (ci := 11) (C := RX11) (T := TX11) (N := 3) (sp := (6, 20, 32, 0)) hx hb htl inX11 hown hK hG ht_a0 (by decide) tk_no rfl 2 (by decide) (htl _ mw_103) (fun _ h9 => h9) rfl dX11_workOut_90 (fun v9 hf1102 hV9 => ?_)
                obtain ⟨b1103, rfl, ht_b1103⟩ := hV9
                have ht_b1103 : t b1103 = (20, 32, 0) := ht_b1103
                refine lv_iload_n hx hb dX11_workOut_93 rfl (lv_at hl 0 rfl) ?_
                refine lv_iload hx hb dX11_workOut_94 (lv_at hl 2 rfl) ?_
                refine lv_iconst (v := 1) hx hb dX11_workOut_96 (by decide) ?_
                refine lv_icmp_ne (tgt := 105) hx hb dX11_workOut_97 (by decide) (fun c9 => absurd ((fi_eq rfl (show (1 : Int32).toInt = 1 by decide)).mpr (show v1092.toInt = 1 by omega)) c9) (fun _ => ?_)
                refine lv_iload hx hb dX11_workOut_100 (lv_at hl 1 rfl) ?_
                refine lv_goto (tgt := 112) hx hb dX11_workOut_102 (by decide) ?_
                refine tk_iast hx hb hK hG hS ht_b1103 (by decide) (fun _ => Iff.rfl) tk_no rfl (by omega) (by omega) trivial (tk_w.of ht_b1103 (by decide) (List.mem_of_getElem? (i := 1) rfl) (Nat.le_refl _) (Nat.le_refl _)) dX11_workOut_112 (fun H locs hG hS hq9 => ?_)
                have hf1087 := hf1087.kept (hq9 _ (tk_ne ht_a1 ht_b1103 (Or.inl (by decide))))
                refine lv_goto (tgt := 453) hx hb dX11_workOut_113 (by decide) ?_
                obtain ⟨v1105, h_v1105, e_v1105⟩ := tk_inc v3 1 (by decide) (by omega) (by omega)
                refine lv_iinc (v := v1105) (lv' := [(4, .int v1105), (3, .int v1097), (6, .int v1095), (5, .int v1092), (0, .ref a0), (1, .ref a1)]) hx hb dX11_workOut_453 hl (k := 3) rfl e_v1105 (by decide) rfl (fun ls hl => ?_)
                refine lv_goto (tgt := 10) hx hb dX11_workOut_456 (by decide) ?_
                exact ih_l1085 v1105 v1097 _ _ (by omega) (by omega) (by omega) (by omega) hG hS _ (lv_sub hl [0, 1, 4, 5] rfl)
          · have hc1096 : ¬ (v1092.toInt = 1) := fun h9 => c9 ((fi_eq rfl (show (1 : Int32).toInt = 1 by decide)).mpr h9)
            refine lv_iload hx hb dX11_workOut_48 (lv_at hl 1 rfl) ?_
            refine lv_iconst (v := 2) hx hb dX11_workOut_50 (by decide) ?_
            refine lv_icmp_ne (tgt := 116) hx hb dX11_workOut_51 (by decide) (fun c9 => ?_) (fun c9 => ?_)
            · have hc1106 : ¬ (v1092.toInt = 2) := fun h9 => c9 ((fi_eq rfl (show (2 : Int32).toInt = 2 by decide)).mpr h9)
              refine lv_iload_n hx hb dX11_workOut_116 rfl (lv_at hl 3 rfl) ?_
              refine lv_if_ge (tgt := 122) hx hb dX11_workOut_117 (by decide) (fun c9 => ?_) (fun c9 => ?_)
              · have hc1107 : 0 ≤ v4.toInt := (fi_le (show (0 : Int32).toInt = 0 by decide) rfl).mp c9
                refine lv_iload hx hb dX11_workOut_122 (lv_at hl 1 rfl) ?_
                refine lv_if_ne (tgt := 139) hx hb dX11_workOut_124 (by decide) (fun c9 => ?_) (fun c9 => ?_)
                · have hc1108 : ¬ (v1092.toInt = 0) := fun h9 => c9 ((fi_eq rfl (show (0 : Int32).toInt = 0 by decide)).mpr h9)
                  refine lv_iload hx hb dX11_workOut_139 (lv_at hl 1 rfl) ?_
                  refine lv_iconst (v := 3) hx hb dX11_workOut_141 (by decide) ?_
                  refine lv_icmp_ne (tgt := 162) hx hb dX11_workOut_142 (by decide) (fun c9 => ?_) (fun c9 => ?_)
                  · have hc1109 : ¬ (v1092.toInt = 3) := fun h9 => c9 ((fi_eq rfl (show (3 : Int32).toInt = 3 by decide)).mpr h9)
                    refine lv_iload hx hb dX11_workOut_162 (lv_at hl 1 rfl) ?_
                    refine lv_iconst (v := 4) hx hb dX11_workOut_164 (by decide) ?_
                    refine lv_icmp_eq (tgt := 174) hx hb dX11_workOut_165 (by decide) (fun c9 => ?_) (fun c9 => ?_)
                    · have hc1110 : v1092.toInt = 4 := (fi_eq rfl (show (4 : Int32).toInt = 4 by decide)).mp c9
                      refine lv_aload_n hx hb dX11_workOut_174 rfl (lv_at hl 4 rfl) ?_
                      refine tk_get (ci := 11) (C := RX11) (T := TX11) (N := 3) (sp := (6, 20, 32, 0)) hx hb htl inX11 hown hK hG ht_a0 (by decide) tk_no rfl 2 (by decide) (htl _ mw_103) (fun _ h9 => h9) rfl dX11_workOut_175 (fun v9 hf1111 hV9 => ?_)
                      obtain ⟨b1112, rfl, ht_b1112⟩ := hV9
                      have ht_b1112 : t b1112 = (20, 32, 0) := ht_b1112
                      refine lv_iload_n hx hb dX11_workOut_178 rfl (lv_at hl 3 rfl) ?_
                      refine tk_iald hx hb hK hG ht_b1112 (by decide) (fun _ h => h) tk_no rfl (by omega) (by omega) dX11_workOut_179 (fun v1113 _ _ => ?_)
                      have hr_v1113 := tk_rng v1113
                      have hj1117 : ∀ (v1116 : Int32), 0 ≤ v1116.toInt → v1116.toInt ≤ 1 → ∀ ls : Array Slot, lv_has ls 13 [(6, .int v1095), (5, .int v1092), (4, .int v3), (3, .int v4), (0, .ref a0), (1, .ref a1)] → W p l e ({ frames := 3, cells := 0, slots := 0, locals := 140 }) s m args below meth c H locs 0 0 (MQ below (ti D cy ld t [] (fun r H => True) (tk_w t [(12, 0, 0), (20, 0, 0)])) args s 0 0 (tk_w t [(12, 0, 0), (20, 0, 0)])) (F0 m 188 ls [.int v1116]) := by
                        intro v1116 hq0_j1117 hq1_j1117 ls hl
                        refine lv_iload hx hb dX11_workOut_188 (lv_at hl 1 rfl) ?_
                        refine lv_iconst (v := 5) hx hb dX11_workOut_190 (by decide) ?_
                        refine lv_icmp_ne (tgt := 198) hx hb dX11_workOut_191 (by decide) (fun _ => ?_) (fun c9 => absurd (show v1092.toInt = 5 from (fi_eq rfl (show (5 : Int32).toInt = 5 by decide)).mp c9) (by omega))
                        refine lv_iconst (v := 0) hx hb dX11_workOut_198 (by decide) ?_
                        have hj1126 : ∀ (v1124 : Int32) (v1125 : Int32), v1124.toInt ≤ 2147483646 → 0 ≤ v1124.toInt + (-1) * v3.toInt → 0 ≤ (-1) * v1125.toInt + v4.toInt → 0 ≤ v1125.toInt + (-1) * v4.toInt + 1 → ∀ ls : Array Slot, lv_has ls 13 [(4, .int v1124), (3, .int v1125), (0, .ref a0), (1, .ref a1)] → W p l e ({ frames := 3, cells := 0, slots := 0, locals := 140 }) s m args below meth c H locs 0 0 (MQ below (ti D cy ld t [] (fun r H => True) (tk_w t [(12, 0, 0), (20, 0, 0)])) args s 0 0 (tk_w t [(12, 0, 0), (20, 0, 0)])) (F0 m 453 ls []) := by
                          intro v1124 v1125 hq0_j1126 hq1_j1126 hq2_j1126 hq3_j1126 ls hl
                          obtain ⟨v1127, h_v1127, e_v1127⟩ := tk_inc v1124 1 (by decide) (by omega) (by omega)
                          refine lv_iinc (v := v1127) (lv' := [(4, .int v1127), (3, .int v1125), (0, .ref a0), (1, .ref a1)]) hx hb dX11_workOut_453 hl (k := 0) rfl e_v1127 (by decide) rfl (fun ls hl => ?_)
                          refine lv_goto (tgt := 10) hx hb dX11_workOut_456 (by decide) ?_
                          exact ih_l1085 v1127 v1125 _ _ (by omega) (by omega) (by omega) (by omega) hG hS _ (lv_sub hl [0, 1, 2, 3] rfl)
                        refine lv_icmp_ne (tgt := 208) hx hb dX11_workOut_199 (by decide) (fun c9 => ?_) (fun c9 => ?_)
                        · have hc1118 : ¬ (v1116.toInt = 0) := fun h9 => c9 ((fi_eq rfl (show (0 : Int32).toInt = 0 by decide)).mpr h9)
                          refine lv_iload hx hb dX11_workOut_208 (lv_at hl 0 rfl) ?_
                          refine lv_iload hx hb dX11_workOut_210 (lv_at hl 2 rfl) ?_
                          refine lv_icmp_le (tgt := 453) hx hb dX11_workOut_212 (by decide) (fun c9 => ?_) (fun c9 => ?_)
                          · have hc1128 : v1095.toInt ≤ v3.toInt := (fi_le rfl rfl).mp c9
                            exact hj1126 v3 v4 (by omega) (by omega) (by omega) (by omega) _ (lv_sub hl [2, 3, 4, 5] rfl)
                          · have hc1128 : ¬ (v1095.toInt ≤ v3.toInt) := fun h9 => c9 ((fi_le rfl rfl).mpr h9)
                            refine lv_iload hx hb dX11_workOut_215 (lv_at hl 0 rfl) ?_
                            refine lv_iconst (v := 1) hx hb dX11_workOut_217 (by decide) ?_
                            refine lv_isub hx hb dX11_workOut_218 ?_
                            refine tk_sub rfl (show (1 : Int32).toInt = 1 by decide) (by omega) (by omega) (fun v1129 h_v1129 => ?_)
                            refine lv_istore (lv' := [(4, .int v1129), (6, .int v1095), (5, .int v1092), (3, .int v4), (0, .ref a0), (1, .ref a1)]) hx hb dX11_workOut_219 hl (by decide) rfl (fun ls hl => ?_)
                            refine lv_goto (tgt := 453) hx hb dX11_workOut_221 (by decide) ?_
                            exact hj1126 v1129 v4 (by omega) (by omega) (by omega) (by omega) _ (lv_sub hl [0, 3, 4, 5] rfl)
                        · have hc1118 : v1116.toInt = 0 := (fi_eq rfl (show (0 : Int32).toInt = 0 by decide)).mp c9
                          obtain ⟨v1130, h_v1130, e_v1130⟩ := tk_inc v4 (-1) (by decide) (by omega) (by omega)
                          refine lv_iinc (v := v1130) (lv' := [(3, .int v1130), (6, .int v1095), (5, .int v1092), (4, .int v3), (0, .ref a0), (1, .ref a1)]) hx hb dX11_workOut_202 hl (k := 3) rfl e_v1130 (by decide) rfl (fun ls hl => ?_)
                          refine lv_goto (tgt := 453) hx hb dX11_workOut_205 (by decide) ?_
                          exact hj1126 v3 v1130 (by omega) (by omega) (by omega) (by omega) _ (lv_sub hl [3, 0, 4, 5] rfl)
                      refine lv_if_ne (tgt := 187) hx hb dX11_workOut_180 (by decide) (fun c9 => ?_) (fun c9 => ?_)
                      · have hc1114 : ¬ (v1113.toInt = 0) := fun h9 => c9 ((fi_eq rfl (show (0 : Int32).toInt = 0 by decide)).mpr h9)
                        refine lv_iconst (v := 0) hx hb dX11_workOut_187 (by decide) ?_
                        have hk_0 : (0 : Int32).toInt = 0 := by decide
                        exact hj1117 0 (by omega) (by omega) _ (lv_sub hl [0, 1, 2, 3, 4, 5] rfl)
                      · have hc1114 : v1113.toInt = 0 := (fi_eq rfl (show (0 : Int32).toInt = 0 by decide)).mp c9
                        refine lv_iconst (v := 1) hx hb dX11_workOut_183 (by decide) ?_
                        refine lv_goto (tgt := 188) hx hb dX11_workOut_184 (by decide) ?_
                        have hk_1 : (1 : Int32).toInt = 1 := by decide
                        exact hj1117 1 (by omega) (by omega) _ (lv_sub hl [0, 1, 2, 3, 4, 5] rfl)
                    · have hc1110 : ¬ (v1092.toInt = 4) := fun h9 => c9 ((fi_eq rfl (show (4 : Int32).toInt = 4 by decide)).mpr h9)
                      refine lv_iload hx hb dX11_workOut_168 (lv_at hl 1 rfl) ?_
                      refine lv_iconst (v := 5) hx hb dX11_workOut_170 (by decide) ?_
                      refine lv_icmp_ne (tgt := 224) hx hb dX11_workOut_171 (by decide) (fun c9 => ?_) (fun c9 => ?_)
                      · have hc1131 : ¬ (v1092.toInt = 5) := fun h9 => c9 ((fi_eq rfl (show (5 : Int32).toInt = 5 by decide)).mpr h9)
                        refine lv_iload_n hx hb dX11_workOut_224 rfl (lv_at hl 3 rfl) ?_
                        refine lv_iconst (v := 1) hx hb dX11_workOut_225 (by decide) ?_
                        refine lv_icmp_ge (tgt := 231) hx hb dX11_workOut_226 (by decide) (fun c9 => ?_) (fun c9 => ?_)
                        · have hc1132 : 1 ≤ v4.toInt := (fi_le (show (1 : Int32).toInt = 1 by decide) rfl).mp c9
                          refine lv_aload_n hx hb dX11_workOut_231 rfl (lv_at hl 4 rfl) ?_
                          refine tk_get (ci := 11) (C := RX11) (T := TX11) (N := 3) (sp := (6, 20, 32, 0)) hx hb htl inX11 hown hK hG ht_a0 (by decide) tk_no rfl 2 (by decide) (htl _ mw_103) (fun _ h9 => h9) rfl dX11_workOut_232 (fun v9 hf1133 hV9 => ?_)
                          obtain ⟨b1134, rfl, ht_b1134⟩ := hV9
                          have ht_b1134 : t b1134 = (20, 32, 0) := ht_b1134
                          refine lv_iload_n hx hb dX11_workOut_235 rfl (lv_at hl 3 rfl) ?_
                          refine lv_iconst (v := 1) hx hb dX11_workOut_236 (by decide) ?_
                          refine lv_isub hx hb dX11_workOut_237 ?_
                          refine tk_sub rfl (show (1 : Int32).toInt = 1 by decide) (by omega) (by omega) (fun v1135 h_v1135 => ?_)
                          refine tk_iald hx hb hK hG ht_b1134 (by decide) (fun _ h => h) tk_no rfl (by omega) (by omega) dX11_workOut_238 (fun v1136 _ _ => ?_)
                          have hr_v1136 := tk_rng v1136
                          obtain ⟨w1137, e_w1137, h_w1137⟩ : ∃ z : Int64, v1136.toInt64 = z ∧ z.toInt = v1136.toInt := ⟨_, rfl, fl_w _⟩
                          refine lv_i2l (v := w1137) hx hb dX11_workOut_239 e_w1137 ?_
                          refine lv_lstore (lv' := [(7, .long w1137), (6, .int v1095), (5, .int v1092), (4, .int v3), (3, .int v4), (0, .ref a0), (1, .ref a1)]) hx hb dX11_workOut_240 hl (by decide) rfl (fun ls hl => ?_)
                          refine lv_aload_n hx hb dX11_workOut_242 rfl (lv_at hl 5 rfl) ?_
                          refine tk_get (ci := 11) (C := RX11) (T := TX11) (N := 3) (sp := (6, 20, 32, 0)) hx hb htl inX11 hown hK hG ht_a0 (by decide) tk_no rfl 2 (by decide) (htl _ mw_103) (fun _ h9 => h9) rfl dX11_workOut_243 (fun v9 hf1138 hV9 => ?_)
                          obtain ⟨b1139, rfl, ht_b1139⟩ := hV9
                          have ht_b1139 : t b1139 = (20, 32, 0) := ht_b1139
                          refine lv_iload_n hx hb dX11_workOut_246 rfl (lv_at hl 4 rfl) ?_
                          refine tk_iald hx hb hK hG ht_b1139 (by decide) (fun _ h => h) tk_no rfl (by omega) (by omega) dX11_workOut_247 (fun v1140 _ _ => ?_)
                          have hr_v1140 := tk_rng v1140
                          obtain ⟨w1141, e_w1141, h_w1141⟩ : ∃ z : Int64, v1140.toInt64 = z ∧ z.toInt = v1140.toInt := ⟨_, rfl, fl_w _⟩
                          refine lv_i2l (v := w1141) hx hb dX11_workOut_248 e_w1141 ?_
                          refine lv_lstore (lv' := [(9, .long w1141), (7, .long w1137), (6, .int v1095), (5, .int v1092), (4, .int v3), (3, .int v4), (0, .ref a0), (1, .ref a1)]) hx hb dX11_workOut_249 hl (by decide) rfl (fun ls hl => ?_)
                          refine lv_lload hx hb dX11_workOut_251 (lv_at hl 0 rfl) ?_
                          refine lv_lconst (v := 0) hx hb dX11_workOut_253 (by decide) ?_
                          refine W.lcmp hx hb dX11_workOut_254 ?_
                          refine lv_if_ne (tgt := 274) hx hb dX11_workOut_255 (by decide) (fun c9 => ?_) (fun c9 => ?_)
                          · have hc1142 : ¬ (w1141.toInt = 0) := fun h9 => c9 (((lg_cmp_eq _ _).trans (fl_eq rfl (show (0 : Int64).toInt = 0 by decide))).mpr h9)
                            refine lv_iload hx hb dX11_workOut_274 (lv_at hl 3 rfl) ?_
                            have hj1166 : ∀ (v1165 : Int64), ∀ ls : Array Slot, lv_has ls 13 [(11, .long v1165), (4, .int v3), (3, .int v4), (0, .ref a0), (1, .ref a1)] → W p l e ({ frames := 3, cells := 0, slots := 0, locals := 140 }) s m args below meth c H locs 0 0 (MQ below (ti D cy ld t [] (fun r H => True) (tk_w t [(12, 0, 0), (20, 0, 0)])) args s 0 0 (tk_w t [(12, 0, 0), (20, 0, 0)])) (F0 m 421 ls []) := by
                              intro v1165  ls hl
                              refine lv_lload hx hb dX11_workOut_421 (lv_at hl 0 rfl) ?_
                              refine lv_ldc2 hx hb hown (htl _ mw_854) dX11_workOut_423 ?_
                              refine W.lcmp hx hb dX11_workOut_426 ?_
                              refine lv_if_gt (tgt := 439) hx hb dX11_workOut_427 (by decide) (fun c9 => ?_) (fun c9 => ?_)
                              · have hc1167 : 1000000000 < v1165.toInt := ((lg_cmp_gt _ _).trans (fl_lt (show (1000000000 : Int64).toInt = 1000000000 by decide) rfl)).mp c9
                                refine lv_iconst (v := 0) hx hb dX11_workOut_439 (by decide) ?_
                                have hk_0 : (0 : Int32).toInt = 0 := by decide
                                exact tk_iret (v := 0) hx hb hr rfl hlocks trivial hG hS dX11_workOut_440
                              · have hc1167 : ¬ (1000000000 < v1165.toInt) := fun h9 => c9 (((lg_cmp_gt _ _).trans (fl_lt (show (1000000000 : Int64).toInt = 1000000000 by decide) rfl)).mpr h9)
                                refine lv_lload hx hb dX11_workOut_430 (lv_at hl 0 rfl) ?_
                                refine lv_ldc2 hx hb hown (htl _ mw_855) dX11_workOut_432 ?_
                                refine W.lcmp hx hb dX11_workOut_435 ?_
                                refine lv_if_ge (tgt := 441) hx hb dX11_workOut_436 (by decide) (fun c9 => ?_) (fun c9 => ?_)
                                · have hc1168 : (-1000000000) ≤ v1165.toInt := ((lg_cmp_ge _ _).trans (fl_le (show ((-1000000000) : Int64).toInt = (-1000000000) by decide) rfl)).mp c9
                                  obtain ⟨v1169, h_v1169, e_v1169⟩ := tk_inc v4 (-1) (by decide) (by omega) (by omega)
                                  refine lv_iinc (v := v1169) (lv' := [(3, .int v1169), (11, .long v1165), (4, .int v3), (0, .ref a0), (1, .ref a1)]) hx hb dX11_workOut_441 hl (k := 2) rfl e_v1169 (by decide) rfl (fun ls hl => ?_)
                                  refine lv_aload_n hx hb dX11_workOut_444 rfl (lv_at hl 3 rfl) ?_
                                  refine tk_get (ci := 11) (C := RX11) (T := TX11) (N := 3) (sp := (6, 20, 32, 0)) hx hb htl inX11 hown hK hG ht_a0 (by decide) tk_no rfl 2 (by decide) (htl _ mw_103) (fun _ h9 => h9) rfl dX11_workOut_445 (fun v9 hf1170 hV9 => ?_)
                                  obtain ⟨b1171, rfl, ht_b1171⟩ := hV9
                                  have ht_b1171 : t b1171 = (20, 32, 0) := ht_b1171
                                  refine lv_iload_n hx hb dX11_workOut_448 rfl (lv_at hl 0 rfl) ?_
                                  refine lv_lload hx hb dX11_workOut_449 (lv_at hl 1 rfl) ?_
                                  obtain ⟨v1172, e_v1172, h_v1172⟩ : ∃ z : Int32, v1165.toInt32 = z ∧ z.toInt = v1165.toInt := ⟨_, rfl, tk_l2i (by omega) (by omega)⟩
                                  refine lv_l2i (v := v1172) hx hb dX11_workOut_451 e_v1172 ?_
                                  refine tk_iast hx hb hK hG hS ht_b1171 (by decide) (fun _ => Iff.rfl) tk_no rfl (by omega) (by omega) trivial (tk_w.of ht_b1171 (by decide) (List.mem_of_getElem? (i := 1) rfl) (Nat.le_refl _) (Nat.le_refl _)) dX11_workOut_452 (fun H locs hG hS hq9 => ?_)
                                  have hf1087 := hf1087.kept (hq9 _ (tk_ne ht_a1 ht_b1171 (Or.inl (by decide))))
                                  obtain ⟨v1174, h_v1174, e_v1174⟩ := tk_inc v3 1 (by decide) (by omega) (by omega)
                                  refine lv_iinc (v := v1174) (lv' := [(4, .int v1174), (3, .int v1169), (11, .long v1165), (0, .ref a0), (1, .ref a1)]) hx hb dX11_workOut_453 hl (k := 2) rfl e_v1174 (by decide) rfl (fun ls hl => ?_)
                                  refine lv_goto (tgt := 10) hx hb dX11_workOut_456 (by decide) ?_
                                  exact ih_l1085 v1174 v1169 _ _ (by omega) (by omega) (by omega) (by omega) hG hS _ (lv_sub hl [0, 1, 3, 4] rfl)
                                · have hc1168 : ¬ ((-1000000000) ≤ v1165.toInt) := fun h9 => c9 (((lg_cmp_ge _ _).trans (fl_le (show ((-1000000000) : Int64).toInt = (-1000000000) by decide) rfl)).mpr h9)
                                  refine lv_iconst (v := 0) hx hb dX11_workOut_439 (by decide) ?_
                                  have hk_0 : (0 : Int32).toInt = 0 := by decide
                                  exact tk_iret (v := 0) hx hb hr rfl hlocks trivial hG hS dX11_workOut_440
                            rcases (show v1092.toInt = 6 ∨ v1092.toInt = 7 ∨ v1092.toInt = 8 ∨ v1092.toInt = 9 ∨ v1092.toInt = 10 ∨ v1092.toInt = 11 ∨ v1092.toInt = 12 ∨ v1092.toInt < 6 ∨ 12 < v1092.toInt by omega) with hsw | hsw | hsw | hsw | hsw | hsw | hsw | hsw | hsw
                            · refine lv_tableIn (off := 44) (tgt := 320) hx hb dX11_workOut_276 (by omega) (by omega) (by rw [hsw]; rfl) (by decide) ?_
                              refine lv_lload hx hb dX11_workOut_320 (lv_at hl 1 rfl) ?_
                              refine lv_lload hx hb dX11_workOut_322 (lv_at hl 0 rfl) ?_
                              refine lv_ladd hx hb dX11_workOut_324 ?_
                              refine tk_ladd rfl rfl (by omega) (by omega) (fun w1175 h_w1175 => ?_)
                              refine lv_lstore (lv' := [(11, .long w1175), (9, .long w1141), (7, .long w1137), (6, .int v1095), (5, .int v1092), (4, .int v3), (3, .int v4), (0, .ref a0), (1, .ref a1)]) hx hb dX11_workOut_325 hl (by decide) rfl (fun ls hl => ?_)
                              refine lv_goto (tgt := 421) hx hb dX11_workOut_327 (by decide) ?_
                              exact hj1166 w1175 _ (lv_sub hl [0, 5, 6, 7, 8] rfl)
                            · refine lv_tableIn (off := 54) (tgt := 330) hx hb dX11_workOut_276 (by omega) (by omega) (by rw [hsw]; rfl) (by decide) ?_
                              refine lv_lload hx hb dX11_workOut_330 (lv_at hl 1 rfl) ?_
                              refine lv_lload hx hb dX11_workOut_332 (lv_at hl 0 rfl) ?_
                              refine lv_lsub hx hb dX11_workOut_334 ?_
                              refine tk_lsub rfl rfl (by omega) (by omega) (fun w1176 h_w1176 => ?_)
                              refine lv_lstore (lv' := [(11, .long w1176), (9, .long w1141), (7, .long w1137), (6, .int v1095), (5, .int v1092), (4, .int v3), (3, .int v4), (0, .ref a0), (1, .ref a1)]) hx hb dX11_workOut_335 hl (by decide) rfl (fun ls hl => ?_)
                              refine lv_goto (tgt := 421) hx hb dX11_workOut_337 (by decide) ?_
                              exact hj1166 w1176 _ (lv_sub hl [0, 5, 6, 7, 8] rfl)
                            · refine lv_tableIn (off := 64) (tgt := 340) hx hb dX11_workOut_276 (by omega) (by omega) (by rw [hsw]; rfl) (by decide) ?_
                              refine lv_lload hx hb dX11_workOut_340 (lv_at hl 1 rfl) ?_
                              refine lv_lload hx hb dX11_workOut_342 (lv_at hl 0 rfl) ?_
                              refine lv_lmul hx hb dX11_workOut_344 ?_
                              refine tk_anyl (fun w1177 => ?_)
                              refine lv_lstore (lv' := [(11, .long w1177), (9, .long w1141), (7, .long w1137), (6, .int v1095), (5, .int v1092), (4, .int v3), (3, .int v4), (0, .ref a0), (1, .ref a1)]) hx hb dX11_workOut_345 hl (by decide) rfl (fun ls hl => ?_)
                              refine lv_goto (tgt := 421) hx hb dX11_workOut_347 (by decide) ?_
                              exact hj1166 w1177 _ (lv_sub hl [0, 5, 6, 7, 8] rfl)
                            · refine lv_tableIn (off := 74) (tgt := 350) hx hb dX11_workOut_276 (by omega) (by omega) (by rw [hsw]; rfl) (by decide) ?_
                              refine lv_lload hx hb dX11_workOut_350 (lv_at hl 1 rfl) ?_
                              refine lv_lload hx hb dX11_workOut_352 (lv_at hl 0 rfl) ?_
                              refine lv_ldiv hx hb dX11_workOut_354 (fun h9 => absurd ((fl_eq rfl (show (0 : Int64).toInt = 0 by decide)).mp h9) (by omega)) ?_
                              refine tk_anyl (fun w1178 => ?_)
                              refine lv_lstore (lv' := [(11, .long w1178), (9, .long w1141), (7, .long w1137), (6, .int v1095), (5, .int v1092), (4, .int v3), (3, .int v4), (0, .ref a0), (1, .ref a1)]) hx hb dX11_workOut_355 hl (by decide) rfl (fun ls hl => ?_)
                              refine lv_goto (tgt := 421) hx hb dX11_workOut_357 (by decide) ?_
                              exact hj1166 w1178 _ (lv_sub hl [0, 5, 6, 7, 8] rfl)
                            · refine lv_tableIn (off := 84) (tgt := 360) hx hb dX11_workOut_276 (by omega) (by omega) (by rw [hsw]; rfl) (by decide) ?_
                              refine lv_lload hx hb dX11_workOut_360 (lv_at hl 1 rfl) ?_
                              refine lv_lload hx hb dX11_workOut_362 (lv_at hl 0 rfl) ?_
                              refine lv_lrem hx hb dX11_workOut_364 (fun h9 => absurd ((fl_eq rfl (show (0 : Int64).toInt = 0 by decide)).mp h9) (by omega)) ?_
                              refine tk_anyl (fun w1179 => ?_)
                              refine lv_lstore (lv' := [(11, .long w1179), (9, .long w1141), (7, .long w1137), (6, .int v1095), (5, .int v1092), (4, .int v3), (3, .int v4), (0, .ref a0), (1, .ref a1)]) hx hb dX11_workOut_365 hl (by decide) rfl (fun ls hl => ?_)
                              refine lv_goto (tgt := 421) hx hb dX11_workOut_367 (by decide) ?_
                              exact hj1166 w1179 _ (lv_sub hl [0, 5, 6, 7, 8] rfl)
                            · refine lv_tableIn (off := 94) (tgt := 370) hx hb dX11_workOut_276 (by omega) (by omega) (by rw [hsw]; rfl) (by decide) ?_
                              refine lv_lload hx hb dX11_workOut_370 (lv_at hl 1 rfl) ?_
                              refine lv_lload hx hb dX11_workOut_372 (lv_at hl 0 rfl) ?_
                              refine W.lcmp hx hb dX11_workOut_374 ?_
                              have hj1183 : ∀ (v1182 : Int64), 0 ≤ v1182.toInt → v1182.toInt ≤ 1 → ∀ ls : Array Slot, lv_has ls 13 [(4, .int v3), (3, .int v4), (0, .ref a0), (1, .ref a1)] → W p l e ({ frames := 3, cells := 0, slots := 0, locals := 140 }) s m args below meth c H locs 0 0 (MQ below (ti D cy ld t [] (fun r H => True) (tk_w t [(12, 0, 0), (20, 0, 0)])) args s 0 0 (tk_w t [(12, 0, 0), (20, 0, 0)])) (F0 m 383 ls [.long v1182]) := by
                                intro v1182 hq0_j1183 hq1_j1183 ls hl
                                refine lv_lstore (lv' := [(11, .long v1182), (4, .int v3), (3, .int v4), (0, .ref a0), (1, .ref a1)]) hx hb dX11_workOut_383 hl (by decide) rfl (fun ls hl => ?_)
                                refine lv_goto (tgt := 421) hx hb dX11_workOut_385 (by decide) ?_
                                exact hj1166 v1182 _ (lv_sub hl [0, 1, 2, 3, 4] rfl)
                              refine lv_if_ge (tgt := 382) hx hb dX11_workOut_375 (by decide) (fun c9 => ?_) (fun c9 => ?_)
                              · have hc1180 : w1141.toInt ≤ w1137.toInt := ((lg_cmp_ge _ _).trans (fl_le rfl rfl)).mp c9
                                refine lv_lconst (v := 0) hx hb dX11_workOut_382 (by decide) ?_
                                have hk_0 : (0 : Int64).toInt = 0 := by decide
                                exact hj1183 0 (by omega) (by omega) _ (lv_sub hl [4, 5, 6, 7] rfl)
                              · have hc1180 : ¬ (w1141.toInt ≤ w1137.toInt) := fun h9 => c9 (((lg_cmp_ge _ _).trans (fl_le rfl rfl)).mpr h9)
                                refine lv_lconst (v := 1) hx hb dX11_workOut_378 (by decide) ?_
                                refine lv_goto (tgt := 383) hx hb dX11_workOut_379 (by decide) ?_
                                have hk_1 : (1 : Int64).toInt = 1 := by decide
                                exact hj1183 1 (by omega) (by omega) _ (lv_sub hl [4, 5, 6, 7] rfl)
                            · refine lv_tableIn (off := 112) (tgt := 388) hx hb dX11_workOut_276 (by omega) (by omega) (by rw [hsw]; rfl) (by decide) ?_
                              refine lv_lload hx hb dX11_workOut_388 (lv_at hl 1 rfl) ?_
                              refine lv_lload hx hb dX11_workOut_390 (lv_at hl 0 rfl) ?_
                              refine W.lcmp hx hb dX11_workOut_392 ?_
                              have hj1187 : ∀ (v1186 : Int64), 0 ≤ v1186.toInt → v1186.toInt ≤ 1 → ∀ ls : Array Slot, lv_has ls 13 [(4, .int v3), (3, .int v4), (0, .ref a0), (1, .ref a1)] → W p l e ({ frames := 3, cells := 0, slots := 0, locals := 140 }) s m args below meth c H locs 0 0 (MQ below (ti D cy ld t [] (fun r H => True) (tk_w t [(12, 0, 0), (20, 0, 0)])) args s 0 0 (tk_w t [(12, 0, 0), (20, 0, 0)])) (F0 m 401 ls [.long v1186]) := by
                                intro v1186 hq0_j1187 hq1_j1187 ls hl
                                refine lv_lstore (lv' := [(11, .long v1186), (4, .int v3), (3, .int v4), (0, .ref a0), (1, .ref a1)]) hx hb dX11_workOut_401 hl (by decide) rfl (fun ls hl => ?_)
                                refine lv_goto (tgt := 421) hx hb dX11_workOut_403 (by decide) ?_
                                exact hj1166 v1186 _ (lv_sub hl [0, 1, 2, 3, 4] rfl)
                              refine lv_if_le (tgt := 400) hx hb dX11_workOut_393 (by decide) (fun c9 => ?_) (fun c9 => ?_)
                              · have hc1184 : w1137.toInt ≤ w1141.toInt := ((lg_cmp_le _ _).trans (fl_le rfl rfl)).mp c9
                                refine lv_lconst (v := 0) hx hb dX11_workOut_400 (by decide) ?_
                                have hk_0 : (0 : Int64).toInt = 0 := by decide
                                exact hj1187 0 (by omega) (by omega) _ (lv_sub hl [4, 5, 6, 7] rfl)
                              · have hc1184 : ¬ (w1137.toInt ≤ w1141.toInt) := fun h9 => c9 (((lg_cmp_le _ _).trans (fl_le rfl rfl)).mpr h9)
                                refine lv_lconst (v := 1) hx hb dX11_workOut_396 (by decide) ?_
                                refine lv_goto (tgt := 401) hx hb dX11_workOut_397 (by decide) ?_
                                have hk_1 : (1 : Int64).toInt = 1 := by decide
                                exact hj1187 1 (by omega) (by omega) _ (lv_sub hl [4, 5, 6, 7] rfl)
                            · refine lv_tableOut (tgt := 406) hx hb dX11_workOut_276 (by omega) (by decide) ?_
                              refine lv_lload hx hb dX11_workOut_406 (lv_at hl 1 rfl) ?_
                              refine lv_lload hx hb dX11_workOut_408 (lv_at hl 0 rfl) ?_
                              refine W.lcmp hx hb dX11_workOut_410 ?_
                              have hj1191 : ∀ (v1190 : Int64), 0 ≤ v1190.toInt → v1190.toInt ≤ 1 → ∀ ls : Array Slot, lv_has ls 13 [(4, .int v3), (3, .int v4), (0, .ref a0), (1, .ref a1)] → W p l e ({ frames := 3, cells := 0, slots := 0, locals := 140 }) s m args below meth c H locs 0 0 (MQ below (ti D cy ld t [] (fun r H => True) (tk_w t [(12, 0, 0), (20, 0, 0)])) args s 0 0 (tk_w t [(12, 0, 0), (20, 0, 0)])) (F0 m 419 ls [.long v1190]) := by
                                intro v1190 hq0_j1191 hq1_j1191 ls hl
                                refine lv_lstore (lv' := [(11, .long v1190), (4, .int v3), (3, .int v4), (0, .ref a0), (1, .ref a1)]) hx hb dX11_workOut_419 hl (by decide) rfl (fun ls hl => ?_)
                                exact hj1166 v1190 _ (lv_sub hl [0, 1, 2, 3, 4] rfl)
                              refine lv_if_ne (tgt := 418) hx hb dX11_workOut_411 (by decide) (fun c9 => ?_) (fun c9 => ?_)
                              · have hc1188 : ¬ (w1137.toInt = w1141.toInt) := fun h9 => c9 (((lg_cmp_eq _ _).trans (fl_eq rfl rfl)).mpr h9)
                                refine lv_lconst (v := 0) hx hb dX11_workOut_418 (by decide) ?_
                                have hk_0 : (0 : Int64).toInt = 0 := by decide
                                exact hj1191 0 (by omega) (by omega) _ (lv_sub hl [4, 5, 6, 7] rfl)
                              · have hc1188 : w1137.toInt = w1141.toInt := ((lg_cmp_eq _ _).trans (fl_eq rfl rfl)).mp c9
                                refine lv_lconst (v := 1) hx hb dX11_workOut_414 (by decide) ?_
                                refine lv_goto (tgt := 419) hx hb dX11_workOut_415 (by decide) ?_
                                have hk_1 : (1 : Int64).toInt = 1 := by decide
                                exact hj1191 1 (by omega) (by omega) _ (lv_sub hl [4, 5, 6, 7] rfl)
                            · refine lv_tableOut (tgt := 406) hx hb dX11_workOut_276 (by omega) (by decide) ?_
                              refine lv_lload hx hb dX11_workOut_406 (lv_at hl 1 rfl) ?_
                              refine lv_lload hx hb dX11_workOut_408 (lv_at hl 0 rfl) ?_
                              refine W.lcmp hx hb dX11_workOut_410 ?_
                              have hj1195 : ∀ (v1194 : Int64), 0 ≤ v1194.toInt → v1194.toInt ≤ 1 → ∀ ls : Array Slot, lv_has ls 13 [(4, .int v3), (3, .int v4), (0, .ref a0), (1, .ref a1)] → W p l e ({ frames := 3, cells := 0, slots := 0, locals := 140 }) s m args below meth c H locs 0 0 (MQ below (ti D cy ld t [] (fun r H => True) (tk_w t [(12, 0, 0), (20, 0, 0)])) args s 0 0 (tk_w t [(12, 0, 0), (20, 0, 0)])) (F0 m 419 ls [.long v1194]) := by
                                intro v1194 hq0_j1195 hq1_j1195 ls hl
                                refine lv_lstore (lv' := [(11, .long v1194), (4, .int v3), (3, .int v4), (0, .ref a0), (1, .ref a1)]) hx hb dX11_workOut_419 hl (by decide) rfl (fun ls hl => ?_)
                                exact hj1166 v1194 _ (lv_sub hl [0, 1, 2, 3, 4] rfl)
                              refine lv_if_ne (tgt := 418) hx hb dX11_workOut_411 (by decide) (fun c9 => ?_) (fun c9 => ?_)
                              · have hc1192 : ¬ (w1137.toInt = w1141.toInt) := fun h9 => c9 (((lg_cmp_eq _ _).trans (fl_eq rfl rfl)).mpr h9)
                                refine lv_lconst (v := 0) hx hb dX11_workOut_418 (by decide) ?_
                                have hk_0 : (0 : Int64).toInt = 0 := by decide
                                exact hj1195 0 (by omega) (by omega) _ (lv_sub hl [4, 5, 6, 7] rfl)
                              · have hc1192 : w1137.toInt = w1141.toInt := ((lg_cmp_eq _ _).trans (fl_eq rfl rfl)).mp c9
                                refine lv_lconst (v := 1) hx hb dX11_workOut_414 (by decide) ?_
                                refine lv_goto (tgt := 419) hx hb dX11_workOut_415 (by decide) ?_
                                have hk_1 : (1 : Int64).toInt = 1 := by decide
                                exact hj1195 1 (by omega) (by omega) _ (lv_sub hl [4, 5, 6, 7] rfl)
                          · have hc1142 : w1141.toInt = 0 := ((lg_cmp_eq _ _).trans (fl_eq rfl (show (0 : Int64).toInt = 0 by decide))).mp c9
                            refine lv_iload hx hb dX11_workOut_258 (lv_at hl 3 rfl) ?_
                            refine lv_bipush (v := 9) hx hb dX11_workOut_260 (by decide) ?_
                            refine lv_icmp_eq (tgt := 272) hx hb dX11_workOut_262 (by decide) (fun c9 => ?_) (fun c9 => ?_)
                            · have hc1196 : v1092.toInt = 9 := (fi_eq rfl (show (9 : Int32).toInt = 9 by decide)).mp c9
                              refine lv_iconst (v := 0) hx hb dX11_workOut_272 (by decide) ?_
                              have hk_0 : (0 : Int32).toInt = 0 := by decide
                              exact tk_iret (v := 0) hx hb hr rfl hlocks trivial hG hS dX11_workOut_273
                            · have hc1196 : ¬ (v1092.toInt = 9) := fun h9 => c9 ((fi_eq rfl (show (9 : Int32).toInt = 9 by decide)).mpr h9)
                              refine lv_iload hx hb dX11_workOut_265 (lv_at hl 3 rfl) ?_
                              refine lv_bipush (v := 10) hx hb dX11_workOut_267 (by decide) ?_
                              refine lv_icmp_ne (tgt := 274) hx hb dX11_workOut_269 (by decide) (fun c9 => ?_) (fun c9 => ?_)
                              · have hc1197 : ¬ (v1092.toInt = 10) := fun h9 => c9 ((fi_eq rfl (show (10 : Int32).toInt = 10 by decide)).mpr h9)
                                refine lv_iload hx hb dX11_workOut_274 (lv_at hl 3 rfl) ?_
                                have hj1219 : ∀ (v1218 : Int64), ∀ ls : Array Slot, lv_has ls 13 [(11, .long v1218), (4, .int v3), (3, .int v4), (0, .ref a0), (1, .ref a1)] → W p l e ({ frames := 3, cells := 0, slots := 0, locals := 140 }) s m args below meth c H locs 0 0 (MQ below (ti D cy ld t [] (fun r H => True) (tk_w t [(12, 0, 0), (20, 0, 0)])) args s 0 0 (tk_w t [(12, 0, 0), (20, 0, 0)])) (F0 m 421 ls []) := by
                                  intro v1218  ls hl
                                  refine lv_lload hx hb dX11_workOut_421 (lv_at hl 0 rfl) ?_
                                  refine lv_ldc2 hx hb hown (htl _ mw_854) dX11_workOut_423 ?_
                                  refine W.lcmp hx hb dX11_workOut_426 ?_
                                  refine lv_if_gt (tgt := 439) hx hb dX11_workOut_427 (by decide) (fun c9 => ?_) (fun c9 => ?_)
                                  · have hc1220 : 1000000000 < v1218.toInt := ((lg_cmp_gt _ _).trans (fl_lt (show (1000000000 : Int64).toInt = 1000000000 by decide) rfl)).mp c9
                                    refine lv_iconst (v := 0) hx hb dX11_workOut_439 (by decide) ?_
                                    have hk_0 : (0 : Int32).toInt = 0 := by decide
                                    exact tk_iret (v := 0) hx hb hr rfl hlocks trivial hG hS dX11_workOut_440
                                  · have hc1220 : ¬ (1000000000 < v1218.toInt) := fun h9 => c9 (((lg_cmp_gt _ _).trans (fl_lt (show (1000000000 : Int64).toInt = 1000000000 by decide) rfl)).mpr h9)
                                    refine lv_lload hx hb dX11_workOut_430 (lv_at hl 0 rfl) ?_
                                    refine lv_ldc2 hx hb hown (htl _ mw_855) dX11_workOut_432 ?_
                                    refine W.lcmp hx hb dX11_workOut_435 ?_
                                    refine lv_if_ge (tgt := 441) hx hb dX11_workOut_436 (by decide) (fun c9 => ?_) (fun c9 => ?_)
                                    · have hc1221 : (-1000000000) ≤ v1218.toInt := ((lg_cmp_ge _ _).trans (fl_le (show ((-1000000000) : Int64).toInt = (-1000000000) by decide) rfl)).mp c9
                                      obtain ⟨v1222, h_v1222, e_v1222⟩ := tk_inc v4 (-1) (by decide) (by omega) (by omega)
                                      refine lv_iinc (v := v1222) (lv' := [(3, .int v1222), (11, .long v1218), (4, .int v3), (0, .ref a0), (1, .ref a1)]) hx hb dX11_workOut_441 hl (k := 2) rfl e_v1222 (by decide) rfl (fun ls hl => ?_)
                                      refine lv_aload_n hx hb dX11_workOut_444 rfl (lv_at hl 3 rfl) ?_
                                      refine tk_get (ci := 11) (C := RX11) (T := TX11) (N := 3) (sp := (6, 20, 32, 0)) hx hb htl inX11 hown hK hG ht_a0 (by decide) tk_no rfl 2 (by decide) (htl _ mw_103) (fun _ h9 => h9) rfl dX11_workOut_445 (fun v9 hf1223 hV9 => ?_)
                                      obtain ⟨b1224, rfl, ht_b1224⟩ := hV9
                                      have ht_b1224 : t b1224 = (20, 32, 0) := ht_b1224
                                      refine lv_iload_n hx hb dX11_workOut_448 rfl (lv_at hl 0 rfl) ?_
                                      refine lv_lload hx hb dX11_workOut_449 (lv_at hl 1 rfl) ?_
                                      obtain ⟨v1225, e_v1225, h_v1225⟩ : ∃ z : Int32, v1218.toInt32 = z ∧ z.toInt = v1218.toInt := ⟨_, rfl, tk_l2i (by omega) (by omega)⟩
                                      refine lv_l2i (v := v1225) hx hb dX11_workOut_451 e_v1225 ?_
                                      refine tk_iast hx hb hK hG hS ht_b1224 (by decide) (fun _ => Iff.rfl) tk_no rfl (by omega) (by omega) trivial (tk_w.of ht_b1224 (by decide) (List.mem_of_getElem? (i := 1) rfl) (Nat.le_refl _) (Nat.le_refl _)) dX11_workOut_452 (fun H locs hG hS hq9 => ?_)
                                      have hf1087 := hf1087.kept (hq9 _ (tk_ne ht_a1 ht_b1224 (Or.inl (by decide))))
                                      obtain ⟨v1227, h_v1227, e_v1227⟩ := tk_inc v3 1 (by decide) (by omega) (by omega)
                                      refine lv_iinc (v := v1227) (lv' := [(4, .int v1227), (3, .int v1222), (11, .long v1218), (0, .ref a0), (1, .ref a1)]) hx hb dX11_workOut_453 hl (k := 2) rfl e_v1227 (by decide) rfl (fun ls hl => ?_)
                                      refine lv_goto (tgt := 10) hx hb dX11_workOut_456 (by decide) ?_
                                      exact ih_l1085 v1227 v1222 _ _ (by omega) (by omega) (by omega) (by omega) hG hS _ (lv_sub hl [0, 1, 3, 4] rfl)
                                    · have hc1221 : ¬ ((-1000000000) ≤ v1218.toInt) := fun h9 => c9 (((lg_cmp_ge _ _).trans (fl_le (show ((-1000000000) : Int64).toInt = (-1000000000) by decide) rfl)).mpr h9)
                                      refine lv_iconst (v := 0) hx hb dX11_workOut_439 (by decide) ?_
                                      have hk_0 : (0 : Int32).toInt = 0 := by decide
                                      exact tk_iret (v := 0) hx hb hr rfl hlocks trivial hG hS dX11_workOut_440
                                rcases (show v1092.toInt = 6 ∨ v1092.toInt = 7 ∨ v1092.toInt = 8 ∨ v1092.toInt = 11 ∨ v1092.toInt = 12 ∨ v1092.toInt < 6 ∨ 12 < v1092.toInt by omega) with hsw | hsw | hsw | hsw | hsw | hsw | hsw
                                · refine lv_tableIn (off := 44) (tgt := 320) hx hb dX11_workOut_276 (by omega) (by omega) (by rw [hsw]; rfl) (by decide) ?_
                                  refine lv_lload hx hb dX11_workOut_320 (lv_at hl 1 rfl) ?_
                                  refine lv_lload hx hb dX11_workOut_322 (lv_at hl 0 rfl) ?_
                                  refine lv_ladd hx hb dX11_workOut_324 ?_
                                  refine tk_ladd rfl rfl (by omega) (by omega) (fun w1228 h_w1228 => ?_)
                                  refine lv_lstore (lv' := [(11, .long w1228), (9, .long w1141), (7, .long w1137), (6, .int v1095), (5, .int v1092), (4, .int v3), (3, .int v4), (0, .ref a0), (1, .ref a1)]) hx hb dX11_workOut_325 hl (by decide) rfl (fun ls hl => ?_)
                                  refine lv_goto (tgt := 421) hx hb dX11_workOut_327 (by decide) ?_
                                  exact hj1219 w1228 _ (lv_sub hl [0, 5, 6, 7, 8] rfl)
                                · refine lv_tableIn (off := 54) (tgt := 330) hx hb dX11_workOut_276 (by omega) (by omega) (by rw [hsw]; rfl) (by decide) ?_
                                  refine lv_lload hx hb dX11_workOut_330 (lv_at hl 1 rfl) ?_
                                  refine lv_lload hx hb dX11_workOut_332 (lv_at hl 0 rfl) ?_
                                  refine lv_lsub hx hb dX11_workOut_334 ?_
                                  refine tk_lsub rfl rfl (by omega) (by omega) (fun w1229 h_w1229 => ?_)
                                  refine lv_lstore (lv' := [(11, .long w1229), (9, .long w1141), (7, .long w1137), (6, .int v1095), (5, .int v1092), (4, .int v3), (3, .int v4), (0, .ref a0), (1, .ref a1)]) hx hb dX11_workOut_335 hl (by decide) rfl (fun ls hl => ?_)
                                  refine lv_goto (tgt := 421) hx hb dX11_workOut_337 (by decide) ?_
                                  exact hj1219 w1229 _ (lv_sub hl [0, 5, 6, 7, 8] rfl)
                                · refine lv_tableIn (off := 64) (tgt := 340) hx hb dX11_workOut_276 (by omega) (by omega) (by rw [hsw]; rfl) (by decide) ?_
                                  refine lv_lload hx hb dX11_workOut_340 (lv_at hl 1 rfl) ?_
                                  refine lv_lload hx hb dX11_workOut_342 (lv_at hl 0 rfl) ?_
                                  refine lv_lmul hx hb dX11_workOut_344 ?_
                                  refine tk_anyl (fun w1230 => ?_)
                                  refine lv_lstore (lv' := [(11, .long w1230), (9, .long w1141), (7, .long w1137), (6, .int v1095), (5, .int v1092), (4, .int v3), (3, .int v4), (0, .ref a0), (1, .ref a1)]) hx hb dX11_workOut_345 hl (by decide) rfl (fun ls hl => ?_)
                                  refine lv_goto (tgt := 421) hx hb dX11_workOut_347 (by decide) ?_
                                  exact hj1219 w1230 _ (lv_sub hl [0, 5, 6, 7, 8] rfl)
                                · refine lv_tableIn (off := 94) (tgt := 370) hx hb dX11_workOut_276 (by omega) (by omega) (by rw [hsw]; rfl) (by decide) ?_
                                  refine lv_lload hx hb dX11_workOut_370 (lv_at hl 1 rfl) ?_
                                  refine lv_lload hx hb dX11_workOut_372 (lv_at hl 0 rfl) ?_
                                  refine W.lcmp hx hb dX11_workOut_374 ?_
                                  have hj1234 : ∀ (v1233 : Int64), 0 ≤ v1233.toInt → v1233.toInt ≤ 1 → ∀ ls : Array Slot, lv_has ls 13 [(4, .int v3), (3, .int v4), (0, .ref a0), (1, .ref a1)] → W p l e ({ frames := 3, cells := 0, slots := 0, locals := 140 }) s m args below meth c H locs 0 0 (MQ below (ti D cy ld t [] (fun r H => True) (tk_w t [(12, 0, 0), (20, 0, 0)])) args s 0 0 (tk_w t [(12, 0, 0), (20, 0, 0)])) (F0 m 383 ls [.long v1233]) := by
                                    intro v1233 hq0_j1234 hq1_j1234 ls hl
                                    refine lv_lstore (lv' := [(11, .long v1233), (4, .int v3), (3, .int v4), (0, .ref a0), (1, .ref a1)]) hx hb dX11_workOut_383 hl (by decide) rfl (fun ls hl => ?_)
                                    refine lv_goto (tgt := 421) hx hb dX11_workOut_385 (by decide) ?_
                                    exact hj1219 v1233 _ (lv_sub hl [0, 1, 2, 3, 4] rfl)
                                  refine lv_if_ge (tgt := 382) hx hb dX11_workOut_375 (by decide) (fun c9 => ?_) (fun c9 => ?_)
                                  · have hc1231 : w1141.toInt ≤ w1137.toInt := ((lg_cmp_ge _ _).trans (fl_le rfl rfl)).mp c9
                                    refine lv_lconst (v := 0) hx hb dX11_workOut_382 (by decide) ?_
                                    have hk_0 : (0 : Int64).toInt = 0 := by decide
                                    exact hj1234 0 (by omega) (by omega) _ (lv_sub hl [4, 5, 6, 7] rfl)
                                  · have hc1231 : ¬ (w1141.toInt ≤ w1137.toInt) := fun h9 => c9 (((lg_cmp_ge _ _).trans (fl_le rfl rfl)).mpr h9)
                                    refine lv_lconst (v := 1) hx hb dX11_workOut_378 (by decide) ?_
                                    refine lv_goto (tgt := 383) hx hb dX11_workOut_379 (by decide) ?_
                                    have hk_1 : (1 : Int64).toInt = 1 := by decide
                                    exact hj1234 1 (by omega) (by omega) _ (lv_sub hl [4, 5, 6, 7] rfl)
                                · refine lv_tableIn (off := 112) (tgt := 388) hx hb dX11_workOut_276 (by omega) (by omega) (by rw [hsw]; rfl) (by decide) ?_
                                  refine lv_lload hx hb dX11_workOut_388 (lv_at hl 1 rfl) ?_
                                  refine lv_lload hx hb dX11_workOut_390 (lv_at hl 0 rfl) ?_
                                  refine W.lcmp hx hb dX11_workOut_392 ?_
                                  have hj1238 : ∀ (v1237 : Int64), 0 ≤ v1237.toInt → v1237.toInt ≤ 1 → ∀ ls : Array Slot, lv_has ls 13 [(4, .int v3), (3, .int v4), (0, .ref a0), (1, .ref a1)] → W p l e ({ frames := 3, cells := 0, slots := 0, locals := 140 }) s m args below meth c H locs 0 0 (MQ below (ti D cy ld t [] (fun r H => True) (tk_w t [(12, 0, 0), (20, 0, 0)])) args s 0 0 (tk_w t [(12, 0, 0), (20, 0, 0)])) (F0 m 401 ls [.long v1237]) := by
                                    intro v1237 hq0_j1238 hq1_j1238 ls hl
                                    refine lv_lstore (lv' := [(11, .long v1237), (4, .int v3), (3, .int v4), (0, .ref a0), (1, .ref a1)]) hx hb dX11_workOut_401 hl (by decide) rfl (fun ls hl => ?_)
                                    refine lv_goto (tgt := 421) hx hb dX11_workOut_403 (by decide) ?_
                                    exact hj1219 v1237 _ (lv_sub hl [0, 1, 2, 3, 4] rfl)
                                  refine lv_if_le (tgt := 400) hx hb dX11_workOut_393 (by decide) (fun c9 => ?_) (fun c9 => ?_)
                                  · have hc1235 : w1137.toInt ≤ w1141.toInt := ((lg_cmp_le _ _).trans (fl_le rfl rfl)).mp c9
                                    refine lv_lconst (v := 0) hx hb dX11_workOut_400 (by decide) ?_
                                    have hk_0 : (0 : Int64).toInt = 0 := by decide
                                    exact hj1238 0 (by omega) (by omega) _ (lv_sub hl [4, 5, 6, 7] rfl)
                                  · have hc1235 : ¬ (w1137.toInt ≤ w1141.toInt) := fun h9 => c9 (((lg_cmp_le _ _).trans (fl_le rfl rfl)).mpr h9)
                                    refine lv_lconst (v := 1) hx hb dX11_workOut_396 (by decide) ?_
                                    refine lv_goto (tgt := 401) hx hb dX11_workOut_397 (by decide) ?_
                                    have hk_1 : (1 : Int64).toInt = 1 := by decide
                                    exact hj1238 1 (by omega) (by omega) _ (lv_sub hl [4, 5, 6, 7] rfl)
                                · refine lv_tableOut (tgt := 406) hx hb dX11_workOut_276 (by omega) (by decide) ?_
                                  refine lv_lload hx hb dX11_workOut_406 (lv_at hl 1 rfl) ?_
                                  refine lv_lload hx hb dX11_workOut_408 (lv_at hl 0 rfl) ?_
                                  refine W.lcmp hx hb dX11_workOut_410 ?_
                                  have hj1242 : ∀ (v1241 : Int64), 0 ≤ v1241.toInt → v1241.toInt ≤ 1 → ∀ ls : Array Slot, lv_has ls 13 [(4, .int v3), (3, .int v4), (0, .ref a0), (1, .ref a1)] → W p l e ({ frames := 3, cells := 0, slots := 0, locals := 140 }) s m args below meth c H locs 0 0 (MQ below (ti D cy ld t [] (fun r H => True) (tk_w t [(12, 0, 0), (20, 0, 0)])) args s 0 0 (tk_w t [(12, 0, 0), (20, 0, 0)])) (F0 m 419 ls [.long v1241]) := by
                                    intro v1241 hq0_j1242 hq1_j1242 ls hl
                                    refine lv_lstore (lv' := [(11, .long v1241), (4, .int v3), (3, .int v4), (0, .ref a0), (1, .ref a1)]) hx hb dX11_workOut_419 hl (by decide) rfl (fun ls hl => ?_)
                                    exact hj1219 v1241 _ (lv_sub hl [0, 1, 2, 3, 4] rfl)
                                  refine lv_if_ne (tgt := 418) hx hb dX11_workOut_411 (by decide) (fun c9 => ?_) (fun c9 => ?_)
                                  · have hc1239 : ¬ (w1137.toInt = w1141.toInt) := fun h9 => c9 (((lg_cmp_eq _ _).trans (fl_eq rfl rfl)).mpr h9)
                                    refine lv_lconst (v := 0) hx hb dX11_workOut_418 (by decide) ?_
                                    have hk_0 : (0 : Int64).toInt = 0 := by decide
                                    exact hj1242 0 (by omega) (by omega) _ (lv_sub hl [4, 5, 6, 7] rfl)
                                  · have hc1239 : w1137.toInt = w1141.toInt := ((lg_cmp_eq _ _).trans (fl_eq rfl rfl)).mp c9
                                    refine lv_lconst (v := 1) hx hb dX11_workOut_414 (by decide) ?_
                                    refine lv_goto (tgt := 419) hx hb dX11_workOut_415 (by decide) ?_
                                    have hk_1 : (1 : Int64).toInt = 1 := by decide
                                    exact hj1242 1 (by omega) (by omega) _ (lv_sub hl [4, 5, 6, 7] rfl)
                                · refine lv_tableOut (tgt := 406) hx hb dX11_workOut_276 (by omega) (by decide) ?_
                                  refine lv_lload hx hb dX11_workOut_406 (lv_at hl 1 rfl) ?_
                                  refine lv_lload hx hb dX11_workOut_408 (lv_at hl 0 rfl) ?_
                                  refine W.lcmp hx hb dX11_workOut_410 ?_
                                  have hj1246 : ∀ (v1245 : Int64), 0 ≤ v1245.toInt → v1245.toInt ≤ 1 → ∀ ls : Array Slot, lv_has ls 13 [(4, .int v3), (3, .int v4), (0, .ref a0), (1, .ref a1)] → W p l e ({ frames := 3, cells := 0, slots := 0, locals := 140 }) s m args below meth c H locs 0 0 (MQ below (ti D cy ld t [] (fun r H => True) (tk_w t [(12, 0, 0), (20, 0, 0)])) args s 0 0 (tk_w t [(12, 0, 0), (20, 0, 0)])) (F0 m 419 ls [.long v1245]) := by
                                    intro v1245 hq0_j1246 hq1_j1246 ls hl
                                    refine lv_lstore (lv' := [(11, .long v1245), (4, .int v3), (3, .int v4), (0, .ref a0), (1, .ref a1)]) hx hb dX11_workOut_419 hl (by decide) rfl (fun ls hl => ?_)
                                    exact hj1219 v1245 _ (lv_sub hl [0, 1, 2, 3, 4] rfl)
                                  refine lv_if_ne (tgt := 418) hx hb dX11_workOut_411 (by decide) (fun c9 => ?_) (fun c9 => ?_)
                                  · have hc1243 : ¬ (w1137.toInt = w1141.toInt) := fun h9 => c9 (((lg_cmp_eq _ _).trans (fl_eq rfl rfl)).mpr h9)
                                    refine lv_lconst (v := 0) hx hb dX11_workOut_418 (by decide) ?_
                                    have hk_0 : (0 : Int64).toInt = 0 := by decide
                                    exact hj1246 0 (by omega) (by omega) _ (lv_sub hl [4, 5, 6, 7] rfl)
                                  · have hc1243 : w1137.toInt = w1141.toInt := ((lg_cmp_eq _ _).trans (fl_eq rfl rfl)).mp c9
                                    refine lv_lconst (v := 1) hx hb dX11_workOut_414 (by decide) ?_
                                    refine lv_goto (tgt := 419) hx hb dX11_workOut_415 (by decide) ?_
                                    have hk_1 : (1 : Int64).toInt = 1 := by decide
                                    exact hj1246 1 (by omega) (by omega) _ (lv_sub hl [4, 5, 6, 7] rfl)
                              · have hc1197 : v1092.toInt = 10 := (fi_eq rfl (show (10 : Int32).toInt = 10 by decide)).mp c9
                                refine lv_iconst (v := 0) hx hb dX11_workOut_272 (by decide) ?_
                                have hk_0 : (0 : Int32).toInt = 0 := by decide
                                exact tk_iret (v := 0) hx hb hr rfl hlocks trivial hG hS dX11_workOut_273
                        · have hc1132 : ¬ (1 ≤ v4.toInt) := fun h9 => c9 ((fi_le (show (1 : Int32).toInt = 1 by decide) rfl).mpr h9)
                          refine lv_iconst (v := 0) hx hb dX11_workOut_229 (by decide) ?_
                          have hk_0 : (0 : Int32).toInt = 0 := by decide
                          exact tk_iret (v := 0) hx hb hr rfl hlocks trivial hG hS dX11_workOut_230
                      · have hc1131 : v1092.toInt = 5 := (fi_eq rfl (show (5 : Int32).toInt = 5 by decide)).mp c9
                        refine lv_aload_n hx hb dX11_workOut_174 rfl (lv_at hl 4 rfl) ?_
                        refine tk_get (ci := 11) (C := RX11) (T := TX11) (N := 3) (sp := (6, 20, 32, 0)) hx hb htl inX11 hown hK hG ht_a0 (by decide) tk_no rfl 2 (by decide) (htl _ mw_103) (fun _ h9 => h9) rfl dX11_workOut_175 (fun v9 hf1247 hV9 => ?_)
                        obtain ⟨b1248, rfl, ht_b1248⟩ := hV9
                        have ht_b1248 : t b1248 = (20, 32, 0) := ht_b1248
                        refine lv_iload_n hx hb dX11_workOut_178 rfl (lv_at hl 3 rfl) ?_
                        refine tk_iald hx hb hK hG ht_b1248 (by decide) (fun _ h => h) tk_no rfl (by omega) (by omega) dX11_workOut_179 (fun v1249 _ _ => ?_)
                        have hr_v1249 := tk_rng v1249
                        have hj1253 : ∀ (v1252 : Int32), 0 ≤ v1252.toInt → v1252.toInt ≤ 1 → ∀ ls : Array Slot, lv_has ls 13 [(6, .int v1095), (5, .int v1092), (4, .int v3), (3, .int v4), (0, .ref a0), (1, .ref a1)] → W p l e ({ frames := 3, cells := 0, slots := 0, locals := 140 }) s m args below meth c H locs 0 0 (MQ below (ti D cy ld t [] (fun r H => True) (tk_w t [(12, 0, 0), (20, 0, 0)])) args s 0 0 (tk_w t [(12, 0, 0), (20, 0, 0)])) (F0 m 188 ls [.int v1252]) := by
                          intro v1252 hq0_j1253 hq1_j1253 ls hl
                          refine lv_iload hx hb dX11_workOut_188 (lv_at hl 1 rfl) ?_
                          refine lv_iconst (v := 5) hx hb dX11_workOut_190 (by decide) ?_
                          refine lv_icmp_ne (tgt := 198) hx hb dX11_workOut_191 (by decide) (fun c9 => absurd ((fi_eq rfl (show (5 : Int32).toInt = 5 by decide)).mpr (show v1092.toInt = 5 by omega)) c9) (fun _ => ?_)
                          refine lv_iconst (v := 1) hx hb dX11_workOut_194 (by decide) ?_
                          refine lv_goto (tgt := 199) hx hb dX11_workOut_195 (by decide) ?_
                          have hj1262 : ∀ (v1260 : Int32) (v1261 : Int32), v1260.toInt ≤ 2147483646 → 0 ≤ v1260.toInt + (-1) * v3.toInt → 0 ≤ (-1) * v1261.toInt + v4.toInt → 0 ≤ v1261.toInt + (-1) * v4.toInt + 1 → ∀ ls : Array Slot, lv_has ls 13 [(4, .int v1260), (3, .int v1261), (0, .ref a0), (1, .ref a1)] → W p l e ({ frames := 3, cells := 0, slots := 0, locals := 140 }) s m args below meth c H locs 0 0 (MQ below (ti D cy ld t [] (fun r H => True) (tk_w t [(12, 0, 0), (20, 0, 0)])) args s 0 0 (tk_w t [(12, 0, 0), (20, 0, 0)])) (F0 m 453 ls []) := by
                            intro v1260 v1261 hq0_j1262 hq1_j1262 hq2_j1262 hq3_j1262 ls hl
                            obtain ⟨v1263, h_v1263, e_v1263⟩ := tk_inc v1260 1 (by decide) (by omega) (by omega)
                            refine lv_iinc (v := v1263) (lv' := [(4, .int v1263), (3, .int v1261), (0, .ref a0), (1, .ref a1)]) hx hb dX11_workOut_453 hl (k := 0) rfl e_v1263 (by decide) rfl (fun ls hl => ?_)
                            refine lv_goto (tgt := 10) hx hb dX11_workOut_456 (by decide) ?_
                            exact ih_l1085 v1263 v1261 _ _ (by omega) (by omega) (by omega) (by omega) hG hS _ (lv_sub hl [0, 1, 2, 3] rfl)
                          refine lv_icmp_ne (tgt := 208) hx hb dX11_workOut_199 (by decide) (fun c9 => ?_) (fun c9 => ?_)
                          · have hc1254 : ¬ (v1252.toInt = 1) := fun h9 => c9 ((fi_eq rfl (show (1 : Int32).toInt = 1 by decide)).mpr h9)
                            refine lv_iload hx hb dX11_workOut_208 (lv_at hl 0 rfl) ?_
                            refine lv_iload hx hb dX11_workOut_210 (lv_at hl 2 rfl) ?_
                            refine lv_icmp_le (tgt := 453) hx hb dX11_workOut_212 (by decide) (fun c9 => ?_) (fun c9 => ?_)
                            · have hc1264 : v1095.toInt ≤ v3.toInt := (fi_le rfl rfl).mp c9
                              exact hj1262 v3 v4 (by omega) (by omega) (by omega) (by omega) _ (lv_sub hl [2, 3, 4, 5] rfl)
                            · have hc1264 : ¬ (v1095.toInt ≤ v3.toInt) := fun h9 => c9 ((fi_le rfl rfl).mpr h9)
                              refine lv_iload hx hb dX11_workOut_215 (lv_at hl 0 rfl) ?_
                              refine lv_iconst (v := 1) hx hb dX11_workOut_217 (by decide) ?_
                              refine lv_isub hx hb dX11_workOut_218 ?_
                              refine tk_sub rfl (show (1 : Int32).toInt = 1 by decide) (by omega) (by omega) (fun v1265 h_v1265 => ?_)
                              refine lv_istore (lv' := [(4, .int v1265), (6, .int v1095), (5, .int v1092), (3, .int v4), (0, .ref a0), (1, .ref a1)]) hx hb dX11_workOut_219 hl (by decide) rfl (fun ls hl => ?_)
                              refine lv_goto (tgt := 453) hx hb dX11_workOut_221 (by decide) ?_
                              exact hj1262 v1265 v4 (by omega) (by omega) (by omega) (by omega) _ (lv_sub hl [0, 3, 4, 5] rfl)
                          · have hc1254 : v1252.toInt = 1 := (fi_eq rfl (show (1 : Int32).toInt = 1 by decide)).mp c9
                            obtain ⟨v1266, h_v1266, e_v1266⟩ := tk_inc v4 (-1) (by decide) (by omega) (by omega)
                            refine lv_iinc (v := v1266) (lv' := [(3, .int v1266), (6, .int v1095), (5, .int v1092), (4, .int v3), (0, .ref a0), (1, .ref a1)]) hx hb dX11_workOut_202 hl (k := 3) rfl e_v1266 (by decide) rfl (fun ls hl => ?_)
                            refine lv_goto (tgt := 453) hx hb dX11_workOut_205 (by decide) ?_
                            exact hj1262 v3 v1266 (by omega) (by omega) (by omega) (by omega) _ (lv_sub hl [3, 0, 4, 5] rfl)
                        refine lv_if_ne (tgt := 187) hx hb dX11_workOut_180 (by decide) (fun c9 => ?_) (fun c9 => ?_)
                        · have hc1250 : ¬ (v1249.toInt = 0) := fun h9 => c9 ((fi_eq rfl (show (0 : Int32).toInt = 0 by decide)).mpr h9)
                          refine lv_iconst (v := 0) hx hb dX11_workOut_187 (by decide) ?_
                          have hk_0 : (0 : Int32).toInt = 0 := by decide
                          exact hj1253 0 (by omega) (by omega) _ (lv_sub hl [0, 1, 2, 3, 4, 5] rfl)
                        · have hc1250 : v1249.toInt = 0 := (fi_eq rfl (show (0 : Int32).toInt = 0 by decide)).mp c9
                          refine lv_iconst (v := 1) hx hb dX11_workOut_183 (by decide) ?_
                          refine lv_goto (tgt := 188) hx hb dX11_workOut_184 (by decide) ?_
                          have hk_1 : (1 : Int32).toInt = 1 := by decide
                          exact hj1253 1 (by omega) (by omega) _ (lv_sub hl [0, 1, 2, 3, 4, 5] rfl)
                  · have hc1109 : v1092.toInt = 3 := (fi_eq rfl (show (3 : Int32).toInt = 3 by decide)).mp c9
                    refine lv_aload_n hx hb dX11_workOut_145 rfl (lv_at hl 4 rfl) ?_
                    refine tk_get (ci := 11) (C := RX11) (T := TX11) (N := 3) (sp := (6, 20, 32, 0)) hx hb htl inX11 hown hK hG ht_a0 (by decide) tk_no rfl 2 (by decide) (htl _ mw_103) (fun _ h9 => h9) rfl dX11_workOut_146 (fun v9 hf1267 hV9 => ?_)
                    obtain ⟨b1268, rfl, ht_b1268⟩ := hV9
                    have ht_b1268 : t b1268 = (20, 32, 0) := ht_b1268
                    refine lv_iload_n hx hb dX11_workOut_149 rfl (lv_at hl 3 rfl) ?_
                    refine lv_iconst (v := 1) hx hb dX11_workOut_150 (by decide) ?_
                    refine lv_aload_n hx hb dX11_workOut_151 rfl (lv_at hl 4 rfl) ?_
                    refine tk_get (ci := 11) (C := RX11) (T := TX11) (N := 3) (sp := (6, 20, 32, 0)) hx hb htl inX11 hown hK hG ht_a0 (by decide) tk_no rfl 2 (by decide) (htl _ mw_103) (fun _ h9 => h9) rfl dX11_workOut_152 (fun v9 hf1269 hV9 => ?_)
                    obtain ⟨b1270, rfl, ht_b1270⟩ := hV9
                    have ht_b1270 : t b1270 = (20, 32, 0) := ht_b1270
                    refine lv_iload_n hx hb dX11_workOut_155 rfl (lv_at hl 3 rfl) ?_
                    refine tk_iald hx hb hK hG ht_b1270 (by decide) (fun _ h => h) tk_no rfl (by omega) (by omega) dX11_workOut_156 (fun v1271 _ _ => ?_)
                    have hr_v1271 := tk_rng v1271
                    refine lv_isub hx hb dX11_workOut_157 ?_
                    obtain ⟨v1272, hm_v1272⟩ : ∃ z : Int32, 1 - v1271 = z := ⟨_, rfl⟩
                    refine fx_ti hm_v1272 ?_
                    refine tk_iast hx hb hK hG hS ht_b1268 (by decide) (fun _ => Iff.rfl) tk_no rfl (by omega) (by omega) trivial (tk_w.of ht_b1268 (by decide) (List.mem_of_getElem? (i := 1) rfl) (Nat.le_refl _) (Nat.le_refl _)) dX11_workOut_158 (fun H locs hG hS hq9 => ?_)
                    have hf1087 := hf1087.kept (hq9 _ (tk_ne ht_a1 ht_b1268 (Or.inl (by decide))))
                    refine lv_goto (tgt := 453) hx hb dX11_workOut_159 (by decide) ?_
                    obtain ⟨v1274, h_v1274, e_v1274⟩ := tk_inc v3 1 (by decide) (by omega) (by omega)
                    refine lv_iinc (v := v1274) (lv' := [(4, .int v1274), (6, .int v1095), (5, .int v1092), (3, .int v4), (0, .ref a0), (1, .ref a1)]) hx hb dX11_workOut_453 hl (k := 2) rfl e_v1274 (by decide) rfl (fun ls hl => ?_)
                    refine lv_goto (tgt := 10) hx hb dX11_workOut_456 (by decide) ?_
                    exact ih_l1085 v1274 v4 _ _ (by omega) (by omega) (by omega) (by omega) hG hS _ (lv_sub hl [0, 3, 4, 5] rfl)
                · have hc1108 : v1092.toInt = 0 := (fi_eq rfl (show (0 : Int32).toInt = 0 by decide)).mp c9
                  refine lv_aload_n hx hb dX11_workOut_127 rfl (lv_at hl 4 rfl) ?_
                  refine lv_iconst (v := 0) hx hb dX11_workOut_128 (by decide) ?_
                  refine tk_put (ci := 11) (v := .int 0) (ty := .boolean) (C := RX11) (T := TX11) (N := 3) (sp := (0, 0, 1, 0)) hx hb htl inX11 tyX11 tyX11_ok nmX11 hown hK hG hS ht_a0 (by decide) tk_no rfl 1 (by decide) (htl _ mw_850) (fun _ h9 => h9) rfl (tyX11_ok 1 (by decide)) rfl rfl rfl (tk_V0 (by decide) (by decide)) (fun _ h => h) (tk_w.of ht_a0 (by decide) (List.mem_of_getElem? (i := 0) rfl) (Nat.le_refl _) (Nat.le_refl _)) dX11_workOut_129 (fun H locs hG hS hf1275 hq9 hj9 => ?_)
                  have hf1087 := hf1087.kept (hq9 _ (tk_ne ht_a1 ht_a0 (Or.inl (by decide))))
                  refine lv_aload_n hx hb dX11_workOut_132 rfl (lv_at hl 4 rfl) ?_
                  refine tk_get (ci := 11) (C := RX11) (T := TX11) (N := 3) (sp := (6, 20, 32, 0)) hx hb htl inX11 hown hK hG ht_a0 (by decide) tk_no rfl 2 (by decide) (htl _ mw_103) (fun _ h9 => h9) rfl dX11_workOut_133 (fun v9 hf1277 hV9 => ?_)
                  obtain ⟨b1278, rfl, ht_b1278⟩ := hV9
                  have ht_b1278 : t b1278 = (20, 32, 0) := ht_b1278
                  refine lv_iload_n hx hb dX11_workOut_136 rfl (lv_at hl 3 rfl) ?_
                  refine tk_iald hx hb hK hG ht_b1278 (by decide) (fun _ h => h) tk_no rfl (by omega) (by omega) dX11_workOut_137 (fun v1279 _ _ => ?_)
                  have hr_v1279 := tk_rng v1279
                  exact tk_iret (v := v1279) hx hb hr rfl hlocks trivial hG hS dX11_workOut_138
              · have hc1107 : ¬ (0 ≤ v4.toInt) := fun h9 => c9 ((fi_le (show (0 : Int32).toInt = 0 by decide) rfl).mpr h9)
                refine lv_iconst (v := 0) hx hb dX11_workOut_120 (by decide) ?_
                have hk_0 : (0 : Int32).toInt = 0 := by decide
                exact tk_iret (v := 0) hx hb hr rfl hlocks trivial hG hS dX11_workOut_121
            · have hc1106 : v1092.toInt = 2 := (fi_eq rfl (show (2 : Int32).toInt = 2 by decide)).mp c9
              obtain ⟨v1280, h_v1280, e_v1280⟩ := tk_inc v4 1 (by decide) (by omega) (by omega)
              refine lv_iinc (v := v1280) (lv' := [(3, .int v1280), (6, .int v1095), (5, .int v1092), (4, .int v3), (0, .ref a0), (1, .ref a1)]) hx hb dX11_workOut_54 hl (k := 3) rfl e_v1280 (by decide) rfl (fun ls hl => ?_)
              refine lv_iload_n hx hb dX11_workOut_57 rfl (lv_at hl 0 rfl) ?_
              refine lv_aload_n hx hb dX11_workOut_58 rfl (lv_at hl 4 rfl) ?_
              refine tk_get (ci := 11) (C := RX11) (T := TX11) (N := 3) (sp := (6, 20, 32, 0)) hx hb htl inX11 hown hK hG ht_a0 (by decide) tk_no rfl 2 (by decide) (htl _ mw_103) (fun _ h9 => h9) rfl dX11_workOut_59 (fun v9 hf1281 hV9 => ?_)
              obtain ⟨b1282, rfl, ht_b1282⟩ := hV9
              have ht_b1282 : t b1282 = (20, 32, 0) := ht_b1282
              refine tk_alen hx hb hK hG 0 rfl ht_b1282 (by decide) (fun _ h => by obtain ⟨f, h, _⟩ := h; exact ⟨_, h⟩) tk_no (by decide) dX11_workOut_62 (fun z hz => ?_)
              obtain rfl : z = 32 := (fi_eq hz (by decide)).mpr rfl
              refine lv_icmp_ge (tgt := 87) hx hb dX11_workOut_63 (by decide) (fun c9 => ?_) (fun c9 => ?_)
              · have hc1283 : 32 ≤ v1280.toInt := (fi_le (show (32 : Int32).toInt = 32 by decide) rfl).mp c9
                refine lv_iconst (v := 0) hx hb dX11_workOut_87 (by decide) ?_
                have hk_0 : (0 : Int32).toInt = 0 := by decide
                exact tk_iret (v := 0) hx hb hr rfl hlocks trivial hG hS dX11_workOut_88
              · have hc1283 : ¬ (32 ≤ v1280.toInt) := fun h9 => c9 ((fi_le (show (32 : Int32).toInt = 32 by decide) rfl).mpr h9)
                refine lv_iload hx hb dX11_workOut_66 (lv_at hl 1 rfl) ?_
                refine lv_if_lt (tgt := 87) hx hb dX11_workOut_68 (by decide) (fun c9 => ?_) (fun c9 => ?_)
                · have hc1284 : v1095.toInt < 0 := (fi_lt rfl (show (0 : Int32).toInt = 0 by decide)).mp c9
                  refine lv_iconst (v := 0) hx hb dX11_workOut_87 (by decide) ?_
                  have hk_0 : (0 : Int32).toInt = 0 := by decide
                  exact tk_iret (v := 0) hx hb hr rfl hlocks trivial hG hS dX11_workOut_88
                · have hc1284 : ¬ (v1095.toInt < 0) := fun h9 => c9 ((fi_lt rfl (show (0 : Int32).toInt = 0 by decide)).mpr h9)
                  refine lv_iload hx hb dX11_workOut_71 (lv_at hl 2 rfl) ?_
                  refine lv_iconst (v := 2) hx hb dX11_workOut_73 (by decide) ?_
                  refine lv_icmp_ne (tgt := 89) hx hb dX11_workOut_74 (by decide) (fun c9 => absurd ((fi_eq rfl (show (2 : Int32).toInt = 2 by decide)).mpr (show v1092.toInt = 2 by omega)) c9) (fun _ => ?_)
                  refine lv_iload hx hb dX11_workOut_77 (lv_at hl 1 rfl) ?_
                  refine lv_aload_n hx hb dX11_workOut_79 rfl (lv_at hl 4 rfl) ?_
                  refine tk_get (ci := 11) (C := RX11) (T := TX11) (N := 3) (sp := (6, 20, 15, 0)) hx hb htl inX11 hown hK hG ht_a0 (by decide) tk_no rfl 0 (by decide) (htl _ mw_102) (fun _ h9 => h9) rfl dX11_workOut_80 (fun v9 hf1285 hV9 => ?_)
                  obtain ⟨b1286, rfl, ht_b1286⟩ := hV9
                  have ht_b1286 : t b1286 = (20, 15, 0) := ht_b1286
                  refine tk_alen hx hb hK hG 0 rfl ht_b1286 (by decide) (fun _ h => by obtain ⟨f, h, _⟩ := h; exact ⟨_, h⟩) tk_no (by decide) dX11_workOut_83 (fun z hz => ?_)
                  obtain rfl : z = 15 := (fi_eq hz (by decide)).mpr rfl
                  refine lv_icmp_lt (tgt := 89) hx hb dX11_workOut_84 (by decide) (fun c9 => ?_) (fun c9 => ?_)
                  · have hc1287 : v1095.toInt < 15 := (fi_lt rfl (show (15 : Int32).toInt = 15 by decide)).mp c9
                    refine lv_aload_n hx hb dX11_workOut_89 rfl (lv_at hl 4 rfl) ?_
                    refine tk_get (ci := 11) (C := RX11) (T := TX11) (N := 3) (sp := (6, 20, 32, 0)) hx hb htl inX11 hown hK hG ht_a0 (by decide) tk_no rfl 2 (by decide) (htl _ mw_103) (fun _ h9 => h9) rfl dX11_workOut_90 (fun v9 hf1288 hV9 => ?_)
                    obtain ⟨b1289, rfl, ht_b1289⟩ := hV9
                    have ht_b1289 : t b1289 = (20, 32, 0) := ht_b1289
                    refine lv_iload_n hx hb dX11_workOut_93 rfl (lv_at hl 0 rfl) ?_
                    refine lv_iload hx hb dX11_workOut_94 (lv_at hl 2 rfl) ?_
                    refine lv_iconst (v := 1) hx hb dX11_workOut_96 (by decide) ?_
                    refine lv_icmp_ne (tgt := 105) hx hb dX11_workOut_97 (by decide) (fun _ => ?_) (fun c9 => absurd (show v1092.toInt = 1 from (fi_eq rfl (show (1 : Int32).toInt = 1 by decide)).mp c9) (by omega))
                    refine lv_aload_n hx hb dX11_workOut_105 rfl (lv_at hl 4 rfl) ?_
                    refine tk_get (ci := 11) (C := RX11) (T := TX11) (N := 3) (sp := (6, 20, 15, 0)) hx hb htl inX11 hown hK hG ht_a0 (by decide) tk_no rfl 0 (by decide) (htl _ mw_102) (fun _ h9 => h9) rfl dX11_workOut_106 (fun v9 hf1290 hV9 => ?_)
                    obtain ⟨b1291, rfl, ht_b1291⟩ := hV9
                    have ht_b1291 : t b1291 = (20, 15, 0) := ht_b1291
                    refine lv_iload hx hb dX11_workOut_109 (lv_at hl 1 rfl) ?_
                    refine tk_iald hx hb hK hG ht_b1291 (by decide) (fun _ h => h) tk_no rfl (by omega) (by omega) dX11_workOut_111 (fun v1292 _ _ => ?_)
                    have hr_v1292 := tk_rng v1292
                    refine tk_iast hx hb hK hG hS ht_b1289 (by decide) (fun _ => Iff.rfl) tk_no rfl (by omega) (by omega) trivial (tk_w.of ht_b1289 (by decide) (List.mem_of_getElem? (i := 1) rfl) (Nat.le_refl _) (Nat.le_refl _)) dX11_workOut_112 (fun H locs hG hS hq9 => ?_)
                    have hf1087 := hf1087.kept (hq9 _ (tk_ne ht_a1 ht_b1289 (Or.inl (by decide))))
                    refine lv_goto (tgt := 453) hx hb dX11_workOut_113 (by decide) ?_
                    obtain ⟨v1294, h_v1294, e_v1294⟩ := tk_inc v3 1 (by decide) (by omega) (by omega)
                    refine lv_iinc (v := v1294) (lv' := [(4, .int v1294), (3, .int v1280), (6, .int v1095), (5, .int v1092), (0, .ref a0), (1, .ref a1)]) hx hb dX11_workOut_453 hl (k := 3) rfl e_v1294 (by decide) rfl (fun ls hl => ?_)
                    refine lv_goto (tgt := 10) hx hb dX11_workOut_456 (by decide) ?_
                    exact ih_l1085 v1294 v1280 _ _ (by omega) (by omega) (by omega) (by omega) hG hS _ (lv_sub hl [0, 1, 4, 5] rfl)
                  · have hc1287 : ¬ (v1095.toInt < 15) := fun h9 => c9 ((fi_lt rfl (show (15 : Int32).toInt = 15 by decide)).mpr h9)
                    refine lv_iconst (v := 0) hx hb dX11_workOut_87 (by decide) ?_
                    have hk_0 : (0 : Int32).toInt = 0 := by decide
                    exact tk_iret (v := 0) hx hb hr rfl hlocks trivial hG hS dX11_workOut_88
  have hk_m1 : ((-1) : Int32).toInt = (-1) := by decide
  exact hl1085 4294967296 p2 (-1) _ _ (by omega) (by omega) (by omega) (by omega) hG hS _ (lv_sub hl [0, 1, 2, 3] rfl)
theorem dX7_sumOf_0 : decode cX7_sumOf 0 = .ok (.iload_n 1, 1) := by decide +kernel
theorem dX7_sumOf_1 : decode cX7_sumOf 1 = .ok (.iconst 3, 1) := by decide +kernel
theorem dX7_sumOf_2 : decode cX7_sumOf 2 = .ok (.imul, 1) := by decide +kernel
theorem dX7_sumOf_3 : decode cX7_sumOf 3 = .ok (.iload_n 2, 1) := by decide +kernel
theorem dX7_sumOf_4 : decode cX7_sumOf 4 = .ok (.iadd, 1) := by decide +kernel
theorem dX7_sumOf_5 : decode cX7_sumOf 5 = .ok (.istore_n 3, 1) := by decide +kernel
theorem dX7_sumOf_6 : decode cX7_sumOf 6 = .ok (.iload_n 3, 1) := by decide +kernel
theorem dX7_sumOf_7 : decode cX7_sumOf 7 = .ok (.ifCond .lt 21, 3) := by decide +kernel
theorem dX7_sumOf_28 : decode cX7_sumOf 28 = .ok (.iconst (-1), 1) := by decide +kernel
theorem dX7_sumOf_29 : decode cX7_sumOf 29 = .ok (.ireturn, 1) := by decide +kernel
theorem dX7_sumOf_10 : decode cX7_sumOf 10 = .ok (.iload_n 3, 1) := by decide +kernel
theorem dX7_sumOf_11 : decode cX7_sumOf 11 = .ok (.aload_n 0, 1) := by decide +kernel
theorem dX7_sumOf_12 : decode cX7_sumOf 12 = .ok (.getfield 27, 3) := by decide +kernel
theorem dX7_sumOf_15 : decode cX7_sumOf 15 = .ok (.arraylength, 1) := by decide +kernel
theorem dX7_sumOf_16 : decode cX7_sumOf 16 = .ok (.if_icmp .ge 12, 3) := by decide +kernel
theorem dX7_sumOf_19 : decode cX7_sumOf 19 = .ok (.aload_n 0, 1) := by decide +kernel
theorem dX7_sumOf_20 : decode cX7_sumOf 20 = .ok (.getfield 27, 3) := by decide +kernel
theorem dX7_sumOf_23 : decode cX7_sumOf 23 = .ok (.iload_n 3, 1) := by decide +kernel
theorem dX7_sumOf_24 : decode cX7_sumOf 24 = .ok (.iaload, 1) := by decide +kernel
theorem dX7_sumOf_25 : decode cX7_sumOf 25 = .ok (.goto 4, 3) := by decide +kernel
set_option maxHeartbeats 4000000 in
set_option maxRecDepth 100000 in
theorem k_X7_sumOf (l : Launch) (D : va_G) (cy : Nat → ClassId) (ld : Nat → Nat) (t : tk_T) (sn0 : Nat) (sr0 : Nat) (a0 : Nat) (p1 : Int32) (p2 : Int32) (ht_a0 : t a0 = (8, sn0, sr0)) : Met l yX7_sumOf (wl yX7_sumOf cX7_sumOf 4 (some .int)) ({ frames := 3, cells := 0, slots := 0, locals := 140 }) (tp D cy ld t [] [.ref a0, .int p1, .int p2] (fun H => True)) (ti D cy ld t [] (fun r H => True) (tk_w t [])) 0 0 (tk_w t []) := by
  refine tk_met (y := yX7_sumOf) (cc := cX7_sumOf) (maxL := 4) (ret := (some .int)) (av := [.ref a0, .int p1, .int p2]) _ _ (by decide) (Nat.le_of_ble_eq_true rfl) ?_
  intro p e s m args below meth c hx hb hr hml hts htl hown hlocks hK H locs hH hG hS hB hZ ls hl
  have hown : s.vm.findClass RX7 = some m.cls := hown
  have hl : lv_has ls 4 [(0, .ref a0), (1, .int p1), (2, .int p2)] := hl
  have hr_p1 := tk_rng p1
  have hr_p2 := tk_rng p2
  have hb_a0 := tk_X8 hG ht_a0 tk_no
  refine lv_iload_n hx hb dX7_sumOf_0 rfl (lv_at hl 1 rfl) ?_
  refine lv_iconst (v := 3) hx hb dX7_sumOf_1 (by decide) ?_
  refine lv_imul hx hb dX7_sumOf_2 ?_
  obtain ⟨v1, hm_v1⟩ : ∃ z : Int32, p1 * 3 = z := ⟨_, rfl⟩
  refine fx_ti hm_v1 ?_
  refine lv_iload_n hx hb dX7_sumOf_3 rfl (lv_at hl 2 rfl) ?_
  refine lv_iadd hx hb dX7_sumOf_4 ?_
  obtain ⟨v2, hm_v2⟩ : ∃ z : Int32, v1 + p2 = z := ⟨_, rfl⟩
  refine fx_ti hm_v2 ?_
  refine lv_istore_n (lv' := [(3, .int v2), (0, .ref a0), (1, .int p1), (2, .int p2)]) hx hb dX7_sumOf_5 rfl hl (by decide) rfl (fun ls hl => ?_)
  refine lv_iload_n hx hb dX7_sumOf_6 rfl (lv_at hl 0 rfl) ?_
  refine lv_if_lt (tgt := 28) hx hb dX7_sumOf_7 (by decide) (fun c9 => ?_) (fun c9 => ?_)
  · have hc3 : v2.toInt < 0 := (fi_lt rfl (show (0 : Int32).toInt = 0 by decide)).mp c9
    refine lv_iconst (v := (-1)) hx hb dX7_sumOf_28 (by decide) ?_
    have hk_m1 : ((-1) : Int32).toInt = (-1) := by decide
    exact tk_iret (v := (-1)) hx hb hr rfl hlocks trivial hG hS dX7_sumOf_29
  · have hc3 : ¬ (v2.toInt < 0) := fun h9 => c9 ((fi_lt rfl (show (0 : Int32).toInt = 0 by decide)).mpr h9)
    refine lv_iload_n hx hb dX7_sumOf_10 rfl (lv_at hl 0 rfl) ?_
    refine lv_aload_n hx hb dX7_sumOf_11 rfl (lv_at hl 1 rfl) ?_
    refine tk_get (ci := 7) (C := RX7) (T := TX7) (N := 10) (sp := (3, 20, 3, 0)) hx hb htl inX7 hown hK hG ht_a0 (by decide) tk_no rfl 5 (by decide) (htl _ mw_143) (fun _ h9 => h9) rfl dX7_sumOf_12 (fun v9 hf4 hV9 => ?_)
    obtain ⟨b5, rfl, ht_b5⟩ := hV9
    have ht_b5 : t b5 = (20, 3 * sr0, 0) := ht_b5
    refine tk_alen hx hb hK hG 0 rfl ht_b5 (by decide) (fun _ h => by obtain ⟨f, h, _⟩ := h; exact ⟨_, h⟩) tk_no (by omega) dX7_sumOf_15 (fun v6 h_v6 => ?_)
    refine lv_icmp_ge (tgt := 28) hx hb dX7_sumOf_16 (by decide) (fun c9 => ?_) (fun c9 => ?_)
    · have hc7 : v6.toInt ≤ v2.toInt := (fi_le rfl rfl).mp c9
      refine lv_iconst (v := (-1)) hx hb dX7_sumOf_28 (by decide) ?_
      have hk_m1 : ((-1) : Int32).toInt = (-1) := by decide
      exact tk_iret (v := (-1)) hx hb hr rfl hlocks trivial hG hS dX7_sumOf_29
    · have hc7 : ¬ (v6.toInt ≤ v2.toInt) := fun h9 => c9 ((fi_le rfl rfl).mpr h9)
      refine lv_aload_n hx hb dX7_sumOf_19 rfl (lv_at hl 1 rfl) ?_
      refine tk_get (ci := 7) (C := RX7) (T := TX7) (N := 10) (sp := (3, 20, 3, 0)) hx hb htl inX7 hown hK hG ht_a0 (by decide) tk_no rfl 5 (by decide) (htl _ mw_143) (fun _ h9 => h9) rfl dX7_sumOf_20 (fun v9 hf8 hV9 => ?_)
      obtain ⟨b9, rfl, ht_b9⟩ := hV9
      have ht_b9 : t b9 = (20, 3 * sr0, 0) := ht_b9
      refine lv_iload_n hx hb dX7_sumOf_23 rfl (lv_at hl 0 rfl) ?_
      refine tk_iald hx hb hK hG ht_b9 (by decide) (fun _ h => h) tk_no rfl (by omega) (by omega) dX7_sumOf_24 (fun v10 _ _ => ?_)
      have hr_v10 := tk_rng v10
      refine lv_goto (tgt := 29) hx hb dX7_sumOf_25 (by decide) ?_
      exact tk_iret (v := v10) hx hb hr rfl hlocks trivial hG hS dX7_sumOf_29
theorem dX8_isTold_0 : decode cX8_isTold 0 = .ok (.aload_n 0, 1) := by decide +kernel
theorem dX8_isTold_1 : decode cX8_isTold 1 = .ok (.getfield 18, 3) := by decide +kernel
theorem dX8_isTold_4 : decode cX8_isTold 4 = .ok (.invokevirtual 33, 3) := by decide +kernel
theorem dX8_isTold_7 : decode cX8_isTold 7 = .ok (.astore_n 2, 1) := by decide +kernel
theorem dX8_isTold_8 : decode cX8_isTold 8 = .ok (.aload_n 2, 1) := by decide +kernel
theorem dX8_isTold_9 : decode cX8_isTold 9 = .ok (.ifnull 11, 3) := by decide +kernel
theorem dX8_isTold_20 : decode cX8_isTold 20 = .ok (.iconst 0, 1) := by decide +kernel
theorem dX8_isTold_21 : decode cX8_isTold 21 = .ok (.ireturn, 1) := by decide +kernel
theorem dX8_isTold_12 : decode cX8_isTold 12 = .ok (.aload_n 2, 1) := by decide +kernel
theorem dX8_isTold_13 : decode cX8_isTold 13 = .ok (.iload_n 1, 1) := by decide +kernel
theorem dX8_isTold_14 : decode cX8_isTold 14 = .ok (.invokevirtual 41, 3) := by decide +kernel
theorem dX8_isTold_17 : decode cX8_isTold 17 = .ok (.ifCond .ne 5, 3) := by decide +kernel
theorem dX8_isTold_22 : decode cX8_isTold 22 = .ok (.aload_n 2, 1) := by decide +kernel
theorem dX8_isTold_23 : decode cX8_isTold 23 = .ok (.getfield 141, 3) := by decide +kernel
theorem dX8_isTold_26 : decode cX8_isTold 26 = .ok (.iconst 1, 1) := by decide +kernel
theorem dX8_isTold_27 : decode cX8_isTold 27 = .ok (.isub, 1) := by decide +kernel
theorem dX8_isTold_28 : decode cX8_isTold 28 = .ok (.istore_n 3, 1) := by decide +kernel
theorem dX8_isTold_29 : decode cX8_isTold 29 = .ok (.iload_n 3, 1) := by decide +kernel
theorem dX8_isTold_30 : decode cX8_isTold 30 = .ok (.ifCond .lt 96, 3) := by decide +kernel
theorem dX8_isTold_126 : decode cX8_isTold 126 = .ok (.iconst 0, 1) := by decide +kernel
theorem dX8_isTold_127 : decode cX8_isTold 127 = .ok (.ireturn, 1) := by decide +kernel
theorem dX8_isTold_33 : decode cX8_isTold 33 = .ok (.aload_n 2, 1) := by decide +kernel
theorem dX8_isTold_34 : decode cX8_isTold 34 = .ok (.getfield 144, 3) := by decide +kernel
theorem dX8_isTold_37 : decode cX8_isTold 37 = .ok (.iload_n 3, 1) := by decide +kernel
theorem dX8_isTold_38 : decode cX8_isTold 38 = .ok (.iaload, 1) := by decide +kernel
theorem dX8_isTold_39 : decode cX8_isTold 39 = .ok (.istore 4, 2) := by decide +kernel
theorem dX8_isTold_41 : decode cX8_isTold 41 = .ok (.aload_n 2, 1) := by decide +kernel
theorem dX8_isTold_42 : decode cX8_isTold 42 = .ok (.getfield 147, 3) := by decide +kernel
theorem dX8_isTold_45 : decode cX8_isTold 45 = .ok (.iload_n 3, 1) := by decide +kernel
theorem dX8_isTold_46 : decode cX8_isTold 46 = .ok (.iaload, 1) := by decide +kernel
theorem dX8_isTold_47 : decode cX8_isTold 47 = .ok (.iload_n 1, 1) := by decide +kernel
theorem dX8_isTold_48 : decode cX8_isTold 48 = .ok (.if_icmp .ne 72, 3) := by decide +kernel
theorem dX8_isTold_120 : decode cX8_isTold 120 = .ok (.iinc 3 (-1), 3) := by decide +kernel
theorem dX8_isTold_123 : decode cX8_isTold 123 = .ok (.goto (-94), 3) := by decide +kernel
theorem dX8_isTold_51 : decode cX8_isTold 51 = .ok (.iload 4, 2) := by decide +kernel
theorem dX8_isTold_53 : decode cX8_isTold 53 = .ok (.iconst (-1), 1) := by decide +kernel
theorem dX8_isTold_54 : decode cX8_isTold 54 = .ok (.if_icmp .eq 16, 3) := by decide +kernel
theorem dX8_isTold_70 : decode cX8_isTold 70 = .ok (.aload_n 2, 1) := by decide +kernel
theorem dX8_isTold_71 : decode cX8_isTold 71 = .ok (.iload_n 3, 1) := by decide +kernel
theorem dX8_isTold_72 : decode cX8_isTold 72 = .ok (.iconst 0, 1) := by decide +kernel
theorem dX8_isTold_73 : decode cX8_isTold 73 = .ok (.invokevirtual 154, 3) := by decide +kernel
theorem dX8_isTold_76 : decode cX8_isTold 76 = .ok (.istore 5, 2) := by decide +kernel
theorem dX8_isTold_78 : decode cX8_isTold 78 = .ok (.aload_n 0, 1) := by decide +kernel
theorem dX8_isTold_79 : decode cX8_isTold 79 = .ok (.iload 5, 2) := by decide +kernel
theorem dX8_isTold_81 : decode cX8_isTold 81 = .ok (.iconst (-1), 1) := by decide +kernel
theorem dX8_isTold_99 : decode cX8_isTold 99 = .ok (.putfield 67, 3) := by decide +kernel
theorem dX8_isTold_102 : decode cX8_isTold 102 = .ok (.iload 5, 2) := by decide +kernel
theorem dX8_isTold_104 : decode cX8_isTold 104 = .ok (.iconst (-1), 1) := by decide +kernel
theorem dX8_isTold_105 : decode cX8_isTold 105 = .ok (.if_icmp .eq 13, 3) := by decide +kernel
theorem dX8_isTold_118 : decode cX8_isTold 118 = .ok (.iconst 1, 1) := by decide +kernel
theorem dX8_isTold_119 : decode cX8_isTold 119 = .ok (.ireturn, 1) := by decide +kernel
theorem dX8_isTold_108 : decode cX8_isTold 108 = .ok (.aload_n 0, 1) := by decide +kernel
theorem dX8_isTold_109 : decode cX8_isTold 109 = .ok (.getfield 12, 3) := by decide +kernel
theorem dX8_isTold_112 : decode cX8_isTold 112 = .ok (.getfield 157, 3) := by decide +kernel
theorem dX8_isTold_115 : decode cX8_isTold 115 = .ok (.ifCond .ne 5, 3) := by decide +kernel
theorem dX8_isTold_82 : decode cX8_isTold 82 = .ok (.if_icmp .ne 7, 3) := by decide +kernel
theorem dX8_isTold_89 : decode cX8_isTold 89 = .ok (.aload_n 0, 1) := by decide +kernel
theorem dX8_isTold_90 : decode cX8_isTold 90 = .ok (.getfield 12, 3) := by decide +kernel
theorem dX8_isTold_93 : decode cX8_isTold 93 = .ok (.aload_n 2, 1) := by decide +kernel
theorem dX8_isTold_94 : decode cX8_isTold 94 = .ok (.iload 5, 2) := by decide +kernel
theorem dX8_isTold_96 : decode cX8_isTold 96 = .ok (.invokevirtual 150, 3) := by decide +kernel
theorem dX8_isTold_85 : decode cX8_isTold 85 = .ok (.iconst 0, 1) := by decide +kernel
theorem dX8_isTold_86 : decode cX8_isTold 86 = .ok (.goto 13, 3) := by decide +kernel
theorem dX8_isTold_57 : decode cX8_isTold 57 = .ok (.aload_n 0, 1) := by decide +kernel
theorem dX8_isTold_58 : decode cX8_isTold 58 = .ok (.getfield 12, 3) := by decide +kernel
theorem dX8_isTold_61 : decode cX8_isTold 61 = .ok (.aload_n 2, 1) := by decide +kernel
theorem dX8_isTold_62 : decode cX8_isTold 62 = .ok (.iload 4, 2) := by decide +kernel
theorem dX8_isTold_64 : decode cX8_isTold 64 = .ok (.invokevirtual 150, 3) := by decide +kernel
theorem dX8_isTold_67 : decode cX8_isTold 67 = .ok (.ifCond .eq 53, 3) := by decide +kernel
set_option maxHeartbeats 4000000 in
set_option maxRecDepth 100000 in
theorem k_X8_isTold (l : Launch) (D : va_G) (cy : Nat → ClassId) (ld : Nat → Nat) (t : tk_T) (a0 : Nat) (p1 : Int32) (ht_a0 : t a0 = (9, 0, 0)) : Met l yX8_isTold (wl yX8_isTold cX8_isTold 6 (some .boolean)) ({ frames := 4, cells := 0, slots := 0, locals := 210 }) (tp D cy ld t [] [.ref a0, .int p1] (fun H => True)) (ti D cy ld t [] (fun r H => 0 ≤ r.toInt ∧ r.toInt ≤ 1 ∧ 0 ≤ r.toInt ∧ r.toInt ≤ 1) (tk_w t [(12, 0, 0), (20, 0, 0), (9, 0, 0)])) 0 0 (tk_w t [(12, 0, 0), (20, 0, 0), (9, 0, 0)]) := by
  refine tk_met (y := yX8_isTold) (cc := cX8_isTold) (maxL := 6) (ret := (some .boolean)) (av := [.ref a0, .int p1]) _ _ (by decide) (Nat.le_of_ble_eq_true rfl) ?_
  intro p e s m args below meth c hx hb hr hml hts htl hown hlocks hK H locs hH hG hS hB hZ ls hl
  have hown : s.vm.findClass RX8 = some m.cls := hown
  have hl : lv_has ls 6 [(0, .ref a0), (1, .int p1)] := hl
  have hr_p1 := tk_rng p1
  refine lv_aload_n hx hb dX8_isTold_0 rfl (lv_at hl 0 rfl) ?_
  refine tk_get (ci := 8) (C := RX8) (T := TX8) (N := 3) (sp := (8, 20, 3, 0)) hx hb htl inX8 hown hK hG ht_a0 (by decide) tk_no rfl 1 (by decide) (htl _ mw_97) (fun _ h9 => h9) rfl dX8_isTold_1 (fun v9 hf1 hV9 => ?_)
  obtain ⟨rfl, ht_ld20⟩ := hV9
  have ht_ld20 : t (ld 20) = (3, 0, 0) := ht_ld20
  refine fx_top (v := .ref (ld 20)) rfl ?_
  refine tk_Vq (As := []) (rest := []) (ci := 2) ⟨hx, hb, hml, hown, hts⟩ hK hG hZ hS (k_X2_lawInForce l D cy ld t (ld 20) ht_ld20) trivial ⟨callB_of 0 hts (wl_in mw_905) rfl rfl rfl (htl _ mw_14) (htl _ mw_902) hd_yX2_lawInForce ⟨(Nat.le_of_ble_eq_true rfl), (Nat.le_of_ble_eq_true rfl)⟩, htl _ mw_903, htl _ mw_904⟩ ht_ld20 (by decide) tk_no rfl (tk_w.pick [] rfl) rfl hl.1 rfl (Nat.le_of_ble_eq_true rfl) dX8_isTold_4 ⟨(Nat.le_of_ble_eq_true rfl), (Nat.le_of_ble_eq_true rfl)⟩ (fun o2 H locs hpo hG hS hq9 => ?_)
  rcases o2 with _ | b4
  · refine fx_top (v := .null) rfl ?_
    refine lv_astore_nN (lv' := [(2, .null), (0, .ref a0), (1, .int p1)]) hx hb dX8_isTold_7 rfl hl (by decide) rfl (fun ls hl => ?_)
    refine lv_aload_nN hx hb dX8_isTold_8 rfl (lv_at hl 0 rfl) ?_
    refine lv_ifnullN (tgt := 20) hx hb dX8_isTold_9 (by decide) ?_
    refine lv_iconst (v := 0) hx hb dX8_isTold_20 (by decide) ?_
    have hk_0 : (0 : Int32).toInt = 0 := by decide
    exact tk_iret (v := 0) hx hb hr rfl hlocks (show 0 ≤ (0 : Int32).toInt ∧ (0 : Int32).toInt ≤ 1 ∧ 0 ≤ (0 : Int32).toInt ∧ (0 : Int32).toInt ≤ 1 from ⟨(by omega), (by omega), (by omega), (by omega)⟩) hG hS dX8_isTold_21
  · obtain ⟨n_b4, r_b4, ht_b4⟩ := hpo b4 rfl
    have hb_b4 := tk_X8 hG ht_b4 tk_no
    refine fx_top (v := .ref b4) rfl ?_
    refine lv_astore_n (lv' := [(2, .ref b4), (0, .ref a0), (1, .int p1)]) hx hb dX8_isTold_7 rfl hl (by decide) rfl (fun ls hl => ?_)
    refine lv_aload_n hx hb dX8_isTold_8 rfl (lv_at hl 0 rfl) ?_
    refine lv_ifnull hx hb dX8_isTold_9 ?_
    refine lv_aload_n hx hb dX8_isTold_12 rfl (lv_at hl 0 rfl) ?_
    refine lv_iload_n hx hb dX8_isTold_13 rfl (lv_at hl 2 rfl) ?_
    refine tk_Vi (As := [.int p1]) (rest := []) (ci := 7) ⟨hx, hb, hml, hown, hts⟩ hK hG hZ hS (k_X7_has l D cy ld t n_b4 r_b4 b4 p1 ht_b4) trivial ⟨callB_of 1 hts (wl_in mw_909) rfl rfl rfl (htl _ mw_131) (htl _ mw_906) hd_yX7_has ⟨(Nat.le_of_ble_eq_true rfl), (Nat.le_of_ble_eq_true rfl)⟩, htl _ mw_907, htl _ mw_908⟩ ht_b4 (by decide) tk_no rfl (tk_w.pick [] rfl) rfl hl.1 rfl (Nat.le_of_ble_eq_true rfl) dX8_isTold_14 ⟨(Nat.le_of_ble_eq_true rfl), (Nat.le_of_ble_eq_true rfl)⟩ (fun v5 H locs hpo hG hS hq9 => ?_)
    obtain ⟨hpo7, hpo8, hpo9, hpo10⟩ := hpo
    refine lv_if_ne (tgt := 22) hx hb dX8_isTold_17 (by decide) (fun c9 => ?_) (fun c9 => ?_)
    · have hc11 : ¬ (v5.toInt = 0) := fun h9 => c9 ((fi_eq rfl (show (0 : Int32).toInt = 0 by decide)).mpr h9)
      refine lv_aload_n hx hb dX8_isTold_22 rfl (lv_at hl 0 rfl) ?_
      refine tk_get (ci := 7) (C := RX7) (T := TX7) (N := 10) (sp := (5, 0, 0, 0)) hx hb htl inX7 hown hK hG ht_b4 (by decide) tk_no rfl 7 (by decide) (htl _ mw_936) (fun _ h9 => h9) rfl dX8_isTold_23 (fun v9 hf12 hV9 => ?_)
      obtain ⟨v13, rfl, (ha_v13 : 0 ≤ v13.toInt), (hb_v13 : v13.toInt ≤ (r_b4 : Int))⟩ := hV9
      refine lv_iconst (v := 1) hx hb dX8_isTold_26 (by decide) ?_
      refine lv_isub hx hb dX8_isTold_27 ?_
      refine tk_sub rfl (show (1 : Int32).toInt = 1 by decide) (by omega) (by omega) (fun v14 h_v14 => ?_)
      refine lv_istore_n (lv' := [(3, .int v14), (2, .ref b4), (0, .ref a0), (1, .int p1)]) hx hb dX8_isTold_28 rfl hl (by decide) rfl (fun ls hl => ?_)
      have hl413 : ∀ (N_l413 : Nat) (v15 : Int32) (H : Heap) (locs : List Loc), (-1) ≤ v15.toInt → 0 ≤ v14.toInt + (-1) * v15.toInt → v15.toInt + 1 < (N_l413 : Int) → tk_G D cy ld t [] H → va_S (tk_w t [(12, 0, 0), (20, 0, 0), (9, 0, 0)]) s.heap H locs → tk_f D H b4 7 7 (.int v13) → ∀ ls : Array Slot, lv_has ls 6 [(3, .int v15), (2, .ref b4), (0, .ref a0), (1, .int p1)] → W p l e ({ frames := 4, cells := 0, slots := 0, locals := 210 }) s m args below meth c H locs 0 0 (MQ below (ti D cy ld t [] (fun r H => 0 ≤ r.toInt ∧ r.toInt ≤ 1 ∧ 0 ≤ r.toInt ∧ r.toInt ≤ 1) (tk_w t [(12, 0, 0), (20, 0, 0), (9, 0, 0)])) args s 0 0 (tk_w t [(12, 0, 0), (20, 0, 0), (9, 0, 0)])) (F0 m 29 ls []) := by
        intro N_l413
        induction N_l413 with
        | zero => intro v15 H locs hq0_l413 hq1_l413 hm_l413 hG hS hf12 ls hl; exfalso; omega
        | succ N_l413 ih_l413 =>
          intro v15 H locs hq0_l413 hq1_l413 hm_l413 hG hS hf12 ls hl
          refine lv_iload_n hx hb dX8_isTold_29 rfl (lv_at hl 0 rfl) ?_
          refine lv_if_lt (tgt := 126) hx hb dX8_isTold_30 (by decide) (fun c9 => ?_) (fun c9 => ?_)
          · have hc414 : v15.toInt < 0 := (fi_lt rfl (show (0 : Int32).toInt = 0 by decide)).mp c9
            refine lv_iconst (v := 0) hx hb dX8_isTold_126 (by decide) ?_
            have hk_0 : (0 : Int32).toInt = 0 := by decide
            exact tk_iret (v := 0) hx hb hr rfl hlocks (show 0 ≤ (0 : Int32).toInt ∧ (0 : Int32).toInt ≤ 1 ∧ 0 ≤ (0 : Int32).toInt ∧ (0 : Int32).toInt ≤ 1 from ⟨(by omega), (by omega), (by omega), (by omega)⟩) hG hS dX8_isTold_127
          · have hc414 : ¬ (v15.toInt < 0) := fun h9 => c9 ((fi_lt rfl (show (0 : Int32).toInt = 0 by decide)).mpr h9)
            refine lv_aload_n hx hb dX8_isTold_33 rfl (lv_at hl 1 rfl) ?_
            refine tk_get (ci := 7) (C := RX7) (T := TX7) (N := 10) (sp := (3, 20, 1, 0)) hx hb htl inX7 hown hK hG ht_b4 (by decide) tk_no rfl 4 (by decide) (htl _ mw_937) (fun _ h9 => h9) rfl dX8_isTold_34 (fun v9 hf415 hV9 => ?_)
            obtain ⟨b416, rfl, ht_b416⟩ := hV9
            have ht_b416 : t b416 = (20, 1 * r_b4, 0) := ht_b416
            refine lv_iload_n hx hb dX8_isTold_37 rfl (lv_at hl 0 rfl) ?_
            refine tk_iald hx hb hK hG ht_b416 (by decide) (fun _ h => h) tk_no rfl (by omega) (by omega) dX8_isTold_38 (fun v417 _ _ => ?_)
            have hr_v417 := tk_rng v417
            refine lv_istore (lv' := [(4, .int v417), (3, .int v15), (2, .ref b4), (0, .ref a0), (1, .int p1)]) hx hb dX8_isTold_39 hl (by decide) rfl (fun ls hl => ?_)
            refine lv_aload_n hx hb dX8_isTold_41 rfl (lv_at hl 2 rfl) ?_
            refine tk_get (ci := 7) (C := RX7) (T := TX7) (N := 10) (sp := (3, 20, 1, 0)) hx hb htl inX7 hown hK hG ht_b4 (by decide) tk_no rfl 2 (by decide) (htl _ mw_938) (fun _ h9 => h9) rfl dX8_isTold_42 (fun v9 hf418 hV9 => ?_)
            obtain ⟨b419, rfl, ht_b419⟩ := hV9
            have ht_b419 : t b419 = (20, 1 * r_b4, 0) := ht_b419
            refine lv_iload_n hx hb dX8_isTold_45 rfl (lv_at hl 1 rfl) ?_
            refine tk_iald hx hb hK hG ht_b419 (by decide) (fun _ h => h) tk_no rfl (by omega) (by omega) dX8_isTold_46 (fun v420 _ _ => ?_)
            have hr_v420 := tk_rng v420
            refine lv_iload_n hx hb dX8_isTold_47 rfl (lv_at hl 4 rfl) ?_
            refine lv_icmp_ne (tgt := 120) hx hb dX8_isTold_48 (by decide) (fun c9 => ?_) (fun c9 => ?_)
            · have hc421 : ¬ (v420.toInt = p1.toInt) := fun h9 => c9 ((fi_eq rfl rfl).mpr h9)
              obtain ⟨v422, h_v422, e_v422⟩ := tk_inc v15 (-1) (by decide) (by omega) (by omega)
              refine lv_iinc (v := v422) (lv' := [(3, .int v422), (4, .int v417), (2, .ref b4), (0, .ref a0), (1, .int p1)]) hx hb dX8_isTold_120 hl (k := 1) rfl e_v422 (by decide) rfl (fun ls hl => ?_)
              refine lv_goto (tgt := 29) hx hb dX8_isTold_123 (by decide) ?_
              exact ih_l413 v422 _ _ (by omega) (by omega) (by omega) hG hS hf12 _ (lv_sub hl [0, 2, 3, 4] rfl)
            · have hc421 : v420.toInt = p1.toInt := (fi_eq rfl rfl).mp c9
              refine lv_iload hx hb dX8_isTold_51 (lv_at hl 0 rfl) ?_
              refine lv_iconst (v := (-1)) hx hb dX8_isTold_53 (by decide) ?_
              refine lv_icmp_eq (tgt := 70) hx hb dX8_isTold_54 (by decide) (fun c9 => ?_) (fun c9 => ?_)
              · have hc423 : v417.toInt = (-1) := (fi_eq rfl (show ((-1) : Int32).toInt = (-1) by decide)).mp c9
                refine lv_aload_n hx hb dX8_isTold_70 rfl (lv_at hl 2 rfl) ?_
                refine lv_iload_n hx hb dX8_isTold_71 rfl (lv_at hl 1 rfl) ?_
                refine lv_iconst (v := 0) hx hb dX8_isTold_72 (by decide) ?_
                have hk_0 : (0 : Int32).toInt = 0 := by decide
                refine tk_Vi (As := [.int v15, .int 0]) (rest := []) (ci := 7) ⟨hx, hb, hml, hown, hts⟩ hK hG hZ hS (k_X7_sumOf l D cy ld t n_b4 r_b4 b4 v15 0 ht_b4) trivial ⟨callB_of 2 hts (wl_in mw_869) rfl rfl rfl (htl _ mw_131) (htl _ mw_942) hd_yX7_sumOf ⟨(Nat.le_of_ble_eq_true rfl), (Nat.le_of_ble_eq_true rfl)⟩, htl _ mw_867, htl _ mw_868⟩ ht_b4 (by decide) tk_no rfl (tk_w.pick [] rfl) rfl hl.1 rfl (Nat.le_of_ble_eq_true rfl) dX8_isTold_73 ⟨(Nat.le_of_ble_eq_true rfl), (Nat.le_of_ble_eq_true rfl)⟩ (fun v424 H locs hpo hG hS hq9 => ?_)
                have hf12 := hf12.call hq9 tk_w.nil
                refine lv_istore (lv' := [(5, .int v424), (4, .int v417), (3, .int v15), (2, .ref b4), (0, .ref a0), (1, .int p1)]) hx hb dX8_isTold_76 hl (by decide) rfl (fun ls hl => ?_)
                refine lv_aload_n hx hb dX8_isTold_78 rfl (lv_at hl 4 rfl) ?_
                refine lv_iload hx hb dX8_isTold_79 (lv_at hl 0 rfl) ?_
                refine lv_iconst (v := (-1)) hx hb dX8_isTold_81 (by decide) ?_
                have hj435 : ∀ (v433 : Int32) (H : Heap) (locs : List Loc), tk_G D cy ld t [] H → va_S (tk_w t [(12, 0, 0), (20, 0, 0), (9, 0, 0)]) s.heap H locs → tk_f D H b4 7 7 (.int v13) → ∀ ls : Array Slot, lv_has ls 6 [(5, .int v424), (3, .int v15), (2, .ref b4), (0, .ref a0), (1, .int p1)] → W p l e ({ frames := 4, cells := 0, slots := 0, locals := 210 }) s m args below meth c H locs 0 0 (MQ below (ti D cy ld t [] (fun r H => 0 ≤ r.toInt ∧ r.toInt ≤ 1 ∧ 0 ≤ r.toInt ∧ r.toInt ≤ 1) (tk_w t [(12, 0, 0), (20, 0, 0), (9, 0, 0)])) args s 0 0 (tk_w t [(12, 0, 0), (20, 0, 0), (9, 0, 0)])) (F0 m 99 ls [.int v433, .ref a0]) := by
                  intro v433 H locs hG hS hf12 ls hl
                  refine tk_put (ci := 8) (v := .int v433) (ty := .int) (C := RX8) (T := TX8) (N := 3) (sp := (0, (-2147483648), 2147483647, 0)) hx hb htl inX8 tyX8 tyX8_ok nmX8 hown hK hG hS ht_a0 (by decide) tk_no rfl 2 (by decide) (htl _ mw_939) (fun _ h9 => h9) rfl (tyX8_ok 2 (by decide)) rfl rfl rfl (tk_V0 (tk_rng _).1 (tk_rng _).2) (fun _ h => h) (tk_w.of ht_a0 (by decide) (List.mem_of_getElem? (i := 2) rfl) (Nat.le_refl _) (Nat.le_refl _)) dX8_isTold_99 (fun H locs hG hS hf436 hq9 hj9 => ?_)
                  have hf12 := hf12.kept (hq9 _ (tk_ne ht_b4 ht_a0 (Or.inl (by decide))))
                  refine lv_iload hx hb dX8_isTold_102 (lv_at hl 0 rfl) ?_
                  refine lv_iconst (v := (-1)) hx hb dX8_isTold_104 (by decide) ?_
                  refine lv_icmp_eq (tgt := 118) hx hb dX8_isTold_105 (by decide) (fun c9 => ?_) (fun c9 => ?_)
                  · have hc438 : v424.toInt = (-1) := (fi_eq rfl (show ((-1) : Int32).toInt = (-1) by decide)).mp c9
                    refine lv_iconst (v := 1) hx hb dX8_isTold_118 (by decide) ?_
                    have hk_1 : (1 : Int32).toInt = 1 := by decide
                    exact tk_iret (v := 1) hx hb hr rfl hlocks (show 0 ≤ (1 : Int32).toInt ∧ (1 : Int32).toInt ≤ 1 ∧ 0 ≤ (1 : Int32).toInt ∧ (1 : Int32).toInt ≤ 1 from ⟨(by omega), (by omega), (by omega), (by omega)⟩) hG hS dX8_isTold_119
                  · have hc438 : ¬ (v424.toInt = (-1)) := fun h9 => c9 ((fi_eq rfl (show ((-1) : Int32).toInt = (-1) by decide)).mpr h9)
                    refine lv_aload_n hx hb dX8_isTold_108 rfl (lv_at hl 3 rfl) ?_
                    refine tk_get (ci := 8) (C := RX8) (T := TX8) (N := 3) (sp := (6, 12, 0, 0)) hx hb htl inX8 hown hK hG ht_a0 (by decide) tk_no rfl 0 (by decide) (htl _ mw_96) (fun _ h9 => h9) rfl dX8_isTold_109 (fun v9 hf439 hV9 => ?_)
                    obtain ⟨b440, rfl, ht_b440⟩ := hV9
                    have ht_b440 : t b440 = (12, 0, 0) := ht_b440
                    refine tk_get (ci := 11) (C := RX11) (T := TX11) (N := 3) (sp := (0, 0, 1, 0)) hx hb htl inX11 hown hK hG ht_b440 (by decide) tk_no rfl 1 (by decide) (htl _ mw_940) (fun _ h9 => h9) rfl dX8_isTold_112 (fun v9 hf441 hV9 => ?_)
                    obtain ⟨v442, rfl, (ha_v442 : 0 ≤ v442.toInt), (hb_v442 : v442.toInt ≤ 1)⟩ := hV9
                    refine lv_if_ne (tgt := 120) hx hb dX8_isTold_115 (by decide) (fun c9 => ?_) (fun c9 => ?_)
                    · have hc443 : ¬ (v442.toInt = 0) := fun h9 => c9 ((fi_eq rfl (show (0 : Int32).toInt = 0 by decide)).mpr h9)
                      obtain ⟨v444, h_v444, e_v444⟩ := tk_inc v15 (-1) (by decide) (by omega) (by omega)
                      refine lv_iinc (v := v444) (lv' := [(3, .int v444), (5, .int v424), (2, .ref b4), (0, .ref a0), (1, .int p1)]) hx hb dX8_isTold_120 hl (k := 1) rfl e_v444 (by decide) rfl (fun ls hl => ?_)
                      refine lv_goto (tgt := 29) hx hb dX8_isTold_123 (by decide) ?_
                      exact ih_l413 v444 _ _ (by omega) (by omega) (by omega) hG hS hf12 _ (lv_sub hl [0, 2, 3, 4] rfl)
                    · have hc443 : v442.toInt = 0 := (fi_eq rfl (show (0 : Int32).toInt = 0 by decide)).mp c9
                      refine lv_iconst (v := 1) hx hb dX8_isTold_118 (by decide) ?_
                      have hk_1 : (1 : Int32).toInt = 1 := by decide
                      exact tk_iret (v := 1) hx hb hr rfl hlocks (show 0 ≤ (1 : Int32).toInt ∧ (1 : Int32).toInt ≤ 1 ∧ 0 ≤ (1 : Int32).toInt ∧ (1 : Int32).toInt ≤ 1 from ⟨(by omega), (by omega), (by omega), (by omega)⟩) hG hS dX8_isTold_119
                refine lv_icmp_ne (tgt := 89) hx hb dX8_isTold_82 (by decide) (fun c9 => ?_) (fun c9 => ?_)
                · have hc426 : ¬ (v424.toInt = (-1)) := fun h9 => c9 ((fi_eq rfl (show ((-1) : Int32).toInt = (-1) by decide)).mpr h9)
                  refine lv_aload_n hx hb dX8_isTold_89 rfl (lv_at hl 4 rfl) ?_
                  refine tk_get (ci := 8) (C := RX8) (T := TX8) (N := 3) (sp := (6, 12, 0, 0)) hx hb htl inX8 hown hK hG ht_a0 (by decide) tk_no rfl 0 (by decide) (htl _ mw_96) (fun _ h9 => h9) rfl dX8_isTold_90 (fun v9 hf445 hV9 => ?_)
                  obtain ⟨b446, rfl, ht_b446⟩ := hV9
                  have ht_b446 : t b446 = (12, 0, 0) := ht_b446
                  refine lv_aload_n hx hb dX8_isTold_93 rfl (lv_at hl 3 rfl) ?_
                  refine lv_iload hx hb dX8_isTold_94 (lv_at hl 0 rfl) ?_
                  refine tk_Vi (As := [.ref b4, .int v424]) (rest := [.ref a0]) (ci := 11) ⟨hx, hb, hml, hown, hts⟩ hK hG hZ hS (k_X11_workOut l D cy ld t n_b4 r_b4 b446 b4 v424 ht_b446 ht_b4) trivial ⟨callB_of 2 hts (wl_in mw_849) rfl rfl rfl (htl _ mw_95) (htl _ mw_941) hd_yX11_workOut ⟨(Nat.le_of_ble_eq_true rfl), (Nat.le_of_ble_eq_true rfl)⟩, htl _ mw_847, htl _ mw_848⟩ ht_b446 (by decide) tk_no rfl (tk_w.pick [0, 1] rfl) rfl hl.1 rfl (Nat.le_of_ble_eq_true rfl) dX8_isTold_96 ⟨(Nat.le_of_ble_eq_true rfl), (Nat.le_of_ble_eq_true rfl)⟩ (fun v447 H locs hpo hG hS hq9 => ?_)
                  have hf12 := hf12.call hq9 (tk_w.no ht_b4 (by intro q hq h1 h2 h3; simp only [List.mem_cons, List.not_mem_nil, or_false] at hq; rcases hq with rfl | rfl <;> (dsimp only at h1 h2 h3; omega)))
                  exact hj435 v447 _ _ hG hS hf12 _ (lv_sub hl [0, 2, 3, 4, 5] rfl)
                · have hc426 : v424.toInt = (-1) := (fi_eq rfl (show ((-1) : Int32).toInt = (-1) by decide)).mp c9
                  refine lv_iconst (v := 0) hx hb dX8_isTold_85 (by decide) ?_
                  refine lv_goto (tgt := 99) hx hb dX8_isTold_86 (by decide) ?_
                  have hk_0 : (0 : Int32).toInt = 0 := by decide
                  exact hj435 0 _ _ hG hS hf12 _ (lv_sub hl [0, 2, 3, 4, 5] rfl)
              · have hc423 : ¬ (v417.toInt = (-1)) := fun h9 => c9 ((fi_eq rfl (show ((-1) : Int32).toInt = (-1) by decide)).mpr h9)
                refine lv_aload_n hx hb dX8_isTold_57 rfl (lv_at hl 3 rfl) ?_
                refine tk_get (ci := 8) (C := RX8) (T := TX8) (N := 3) (sp := (6, 12, 0, 0)) hx hb htl inX8 hown hK hG ht_a0 (by decide) tk_no rfl 0 (by decide) (htl _ mw_96) (fun _ h9 => h9) rfl dX8_isTold_58 (fun v9 hf449 hV9 => ?_)
                obtain ⟨b450, rfl, ht_b450⟩ := hV9
                have ht_b450 : t b450 = (12, 0, 0) := ht_b450
                refine lv_aload_n hx hb dX8_isTold_61 rfl (lv_at hl 2 rfl) ?_
                refine lv_iload hx hb dX8_isTold_62 (lv_at hl 0 rfl) ?_
                refine tk_Vi (As := [.ref b4, .int v417]) (rest := []) (ci := 11) ⟨hx, hb, hml, hown, hts⟩ hK hG hZ hS (k_X11_workOut l D cy ld t n_b4 r_b4 b450 b4 v417 ht_b450 ht_b4) trivial ⟨callB_of 2 hts (wl_in mw_849) rfl rfl rfl (htl _ mw_95) (htl _ mw_941) hd_yX11_workOut ⟨(Nat.le_of_ble_eq_true rfl), (Nat.le_of_ble_eq_true rfl)⟩, htl _ mw_847, htl _ mw_848⟩ ht_b450 (by decide) tk_no rfl (tk_w.pick [0, 1] rfl) rfl hl.1 rfl (Nat.le_of_ble_eq_true rfl) dX8_isTold_64 ⟨(Nat.le_of_ble_eq_true rfl), (Nat.le_of_ble_eq_true rfl)⟩ (fun v451 H locs hpo hG hS hq9 => ?_)
                have hf12 := hf12.call hq9 (tk_w.no ht_b4 (by intro q hq h1 h2 h3; simp only [List.mem_cons, List.not_mem_nil, or_false] at hq; rcases hq with rfl | rfl <;> (dsimp only at h1 h2 h3; omega)))
                refine lv_if_eq (tgt := 120) hx hb dX8_isTold_67 (by decide) (fun c9 => ?_) (fun c9 => ?_)
                · have hc453 : v451.toInt = 0 := (fi_eq rfl (show (0 : Int32).toInt = 0 by decide)).mp c9
                  obtain ⟨v454, h_v454, e_v454⟩ := tk_inc v15 (-1) (by decide) (by omega) (by omega)
                  refine lv_iinc (v := v454) (lv' := [(3, .int v454), (4, .int v417), (2, .ref b4), (0, .ref a0), (1, .int p1)]) hx hb dX8_isTold_120 hl (k := 1) rfl e_v454 (by decide) rfl (fun ls hl => ?_)
                  refine lv_goto (tgt := 29) hx hb dX8_isTold_123 (by decide) ?_
                  exact ih_l413 v454 _ _ (by omega) (by omega) (by omega) hG hS hf12 _ (lv_sub hl [0, 2, 3, 4] rfl)
                · have hc453 : ¬ (v451.toInt = 0) := fun h9 => c9 ((fi_eq rfl (show (0 : Int32).toInt = 0 by decide)).mpr h9)
                  refine lv_aload_n hx hb dX8_isTold_70 rfl (lv_at hl 2 rfl) ?_
                  refine lv_iload_n hx hb dX8_isTold_71 rfl (lv_at hl 1 rfl) ?_
                  refine lv_iconst (v := 0) hx hb dX8_isTold_72 (by decide) ?_
                  have hk_0 : (0 : Int32).toInt = 0 := by decide
                  refine tk_Vi (As := [.int v15, .int 0]) (rest := []) (ci := 7) ⟨hx, hb, hml, hown, hts⟩ hK hG hZ hS (k_X7_sumOf l D cy ld t n_b4 r_b4 b4 v15 0 ht_b4) trivial ⟨callB_of 2 hts (wl_in mw_869) rfl rfl rfl (htl _ mw_131) (htl _ mw_942) hd_yX7_sumOf ⟨(Nat.le_of_ble_eq_true rfl), (Nat.le_of_ble_eq_true rfl)⟩, htl _ mw_867, htl _ mw_868⟩ ht_b4 (by decide) tk_no rfl (tk_w.pick [] rfl) rfl hl.1 rfl (Nat.le_of_ble_eq_true rfl) dX8_isTold_73 ⟨(Nat.le_of_ble_eq_true rfl), (Nat.le_of_ble_eq_true rfl)⟩ (fun v455 H locs hpo hG hS hq9 => ?_)
                  have hf12 := hf12.call hq9 tk_w.nil
                  refine lv_istore (lv' := [(5, .int v455), (4, .int v417), (3, .int v15), (2, .ref b4), (0, .ref a0), (1, .int p1)]) hx hb dX8_isTold_76 hl (by decide) rfl (fun ls hl => ?_)
                  refine lv_aload_n hx hb dX8_isTold_78 rfl (lv_at hl 4 rfl) ?_
                  refine lv_iload hx hb dX8_isTold_79 (lv_at hl 0 rfl) ?_
                  refine lv_iconst (v := (-1)) hx hb dX8_isTold_81 (by decide) ?_
                  have hj466 : ∀ (v464 : Int32) (H : Heap) (locs : List Loc), tk_G D cy ld t [] H → va_S (tk_w t [(12, 0, 0), (20, 0, 0), (9, 0, 0)]) s.heap H locs → tk_f D H b4 7 7 (.int v13) → ∀ ls : Array Slot, lv_has ls 6 [(5, .int v455), (3, .int v15), (2, .ref b4), (0, .ref a0), (1, .int p1)] → W p l e ({ frames := 4, cells := 0, slots := 0, locals := 210 }) s m args below meth c H locs 0 0 (MQ below (ti D cy ld t [] (fun r H => 0 ≤ r.toInt ∧ r.toInt ≤ 1 ∧ 0 ≤ r.toInt ∧ r.toInt ≤ 1) (tk_w t [(12, 0, 0), (20, 0, 0), (9, 0, 0)])) args s 0 0 (tk_w t [(12, 0, 0), (20, 0, 0), (9, 0, 0)])) (F0 m 99 ls [.int v464, .ref a0]) := by
                    intro v464 H locs hG hS hf12 ls hl
                    refine tk_put (ci := 8) (v := .int v464) (ty := .int) (C := RX8) (T := TX8) (N := 3) (sp := (0, (-2147483648), 2147483647, 0)) hx hb htl inX8 tyX8 tyX8_ok nmX8 hown hK hG hS ht_a0 (by decide) tk_no rfl 2 (by decide) (htl _ mw_939) (fun _ h9 => h9) rfl (tyX8_ok 2 (by decide)) rfl rfl rfl (tk_V0 (tk_rng _).1 (tk_rng _).2) (fun _ h => h) (tk_w.of ht_a0 (by decide) (List.mem_of_getElem? (i := 2) rfl) (Nat.le_refl _) (Nat.le_refl _)) dX8_isTold_99 (fun H locs hG hS hf467 hq9 hj9 => ?_)
                    have hf12 := hf12.kept (hq9 _ (tk_ne ht_b4 ht_a0 (Or.inl (by decide))))
                    refine lv_iload hx hb dX8_isTold_102 (lv_at hl 0 rfl) ?_
                    refine lv_iconst (v := (-1)) hx hb dX8_isTold_104 (by decide) ?_
                    refine lv_icmp_eq (tgt := 118) hx hb dX8_isTold_105 (by decide) (fun c9 => ?_) (fun c9 => ?_)
                    · have hc469 : v455.toInt = (-1) := (fi_eq rfl (show ((-1) : Int32).toInt = (-1) by decide)).mp c9
                      refine lv_iconst (v := 1) hx hb dX8_isTold_118 (by decide) ?_
                      have hk_1 : (1 : Int32).toInt = 1 := by decide
                      exact tk_iret (v := 1) hx hb hr rfl hlocks (show 0 ≤ (1 : Int32).toInt ∧ (1 : Int32).toInt ≤ 1 ∧ 0 ≤ (1 : Int32).toInt ∧ (1 : Int32).toInt ≤ 1 from ⟨(by omega), (by omega), (by omega), (by omega)⟩) hG hS dX8_isTold_119
                    · have hc469 : ¬ (v455.toInt = (-1)) := fun h9 => c9 ((fi_eq rfl (show ((-1) : Int32).toInt = (-1) by decide)).mpr h9)
                      refine lv_aload_n hx hb dX8_isTold_108 rfl (lv_at hl 3 rfl) ?_
                      refine tk_get (ci := 8) (C := RX8) (T := TX8) (N := 3) (sp := (6, 12, 0, 0)) hx hb htl inX8 hown hK hG ht_a0 (by decide) tk_no rfl 0 (by decide) (htl _ mw_96) (fun _ h9 => h9) rfl dX8_isTold_109 (fun v9 hf470 hV9 => ?_)
                      obtain ⟨b471, rfl, ht_b471⟩ := hV9
                      have ht_b471 : t b471 = (12, 0, 0) := ht_b471
                      refine tk_get (ci := 11) (C := RX11) (T := TX11) (N := 3) (sp := (0, 0, 1, 0)) hx hb htl inX11 hown hK hG ht_b471 (by decide) tk_no rfl 1 (by decide) (htl _ mw_940) (fun _ h9 => h9) rfl dX8_isTold_112 (fun v9 hf472 hV9 => ?_)
                      obtain ⟨v473, rfl, (ha_v473 : 0 ≤ v473.toInt), (hb_v473 : v473.toInt ≤ 1)⟩ := hV9
                      refine lv_if_ne (tgt := 120) hx hb dX8_isTold_115 (by decide) (fun c9 => ?_) (fun c9 => ?_)
                      · have hc474 : ¬ (v473.toInt = 0) := fun h9 => c9 ((fi_eq rfl (show (0 : Int32).toInt = 0 by decide)).mpr h9)
                        obtain ⟨v475, h_v475, e_v475⟩ := tk_inc v15 (-1) (by decide) (by omega) (by omega)
                        refine lv_iinc (v := v475) (lv' := [(3, .int v475), (5, .int v455), (2, .ref b4), (0, .ref a0), (1, .int p1)]) hx hb dX8_isTold_120 hl (k := 1) rfl e_v475 (by decide) rfl (fun ls hl => ?_)
                        refine lv_goto (tgt := 29) hx hb dX8_isTold_123 (by decide) ?_
                        exact ih_l413 v475 _ _ (by omega) (by omega) (by omega) hG hS hf12 _ (lv_sub hl [0, 2, 3, 4] rfl)
                      · have hc474 : v473.toInt = 0 := (fi_eq rfl (show (0 : Int32).toInt = 0 by decide)).mp c9
                        refine lv_iconst (v := 1) hx hb dX8_isTold_118 (by decide) ?_
                        have hk_1 : (1 : Int32).toInt = 1 := by decide
                        exact tk_iret (v := 1) hx hb hr rfl hlocks (show 0 ≤ (1 : Int32).toInt ∧ (1 : Int32).toInt ≤ 1 ∧ 0 ≤ (1 : Int32).toInt ∧ (1 : Int32).toInt ≤ 1 from ⟨(by omega), (by omega), (by omega), (by omega)⟩) hG hS dX8_isTold_119
                  refine lv_icmp_ne (tgt := 89) hx hb dX8_isTold_82 (by decide) (fun c9 => ?_) (fun c9 => ?_)
                  · have hc457 : ¬ (v455.toInt = (-1)) := fun h9 => c9 ((fi_eq rfl (show ((-1) : Int32).toInt = (-1) by decide)).mpr h9)
                    refine lv_aload_n hx hb dX8_isTold_89 rfl (lv_at hl 4 rfl) ?_
                    refine tk_get (ci := 8) (C := RX8) (T := TX8) (N := 3) (sp := (6, 12, 0, 0)) hx hb htl inX8 hown hK hG ht_a0 (by decide) tk_no rfl 0 (by decide) (htl _ mw_96) (fun _ h9 => h9) rfl dX8_isTold_90 (fun v9 hf476 hV9 => ?_)
                    obtain ⟨b477, rfl, ht_b477⟩ := hV9
                    have ht_b477 : t b477 = (12, 0, 0) := ht_b477
                    refine lv_aload_n hx hb dX8_isTold_93 rfl (lv_at hl 3 rfl) ?_
                    refine lv_iload hx hb dX8_isTold_94 (lv_at hl 0 rfl) ?_
                    refine tk_Vi (As := [.ref b4, .int v455]) (rest := [.ref a0]) (ci := 11) ⟨hx, hb, hml, hown, hts⟩ hK hG hZ hS (k_X11_workOut l D cy ld t n_b4 r_b4 b477 b4 v455 ht_b477 ht_b4) trivial ⟨callB_of 2 hts (wl_in mw_849) rfl rfl rfl (htl _ mw_95) (htl _ mw_941) hd_yX11_workOut ⟨(Nat.le_of_ble_eq_true rfl), (Nat.le_of_ble_eq_true rfl)⟩, htl _ mw_847, htl _ mw_848⟩ ht_b477 (by decide) tk_no rfl (tk_w.pick [0, 1] rfl) rfl hl.1 rfl (Nat.le_of_ble_eq_true rfl) dX8_isTold_96 ⟨(Nat.le_of_ble_eq_true rfl), (Nat.le_of_ble_eq_true rfl)⟩ (fun v478 H locs hpo hG hS hq9 => ?_)
                    have hf12 := hf12.call hq9 (tk_w.no ht_b4 (by intro q hq h1 h2 h3; simp only [List.mem_cons, List.not_mem_nil, or_false] at hq; rcases hq with rfl | rfl <;> (dsimp only at h1 h2 h3; omega)))
                    exact hj466 v478 _ _ hG hS hf12 _ (lv_sub hl [0, 2, 3, 4, 5] rfl)
                  · have hc457 : v455.toInt = (-1) := (fi_eq rfl (show ((-1) : Int32).toInt = (-1) by decide)).mp c9
                    refine lv_iconst (v := 0) hx hb dX8_isTold_85 (by decide) ?_
                    refine lv_goto (tgt := 99) hx hb dX8_isTold_86 (by decide) ?_
                    have hk_0 : (0 : Int32).toInt = 0 := by decide
                    exact hj466 0 _ _ hG hS hf12 _ (lv_sub hl [0, 2, 3, 4, 5] rfl)
      exact hl413 13 v14 _ _ (by omega) (by omega) (by omega) hG hS hf12 _ (lv_sub hl [0, 1, 2, 3] rfl)
    · have hc11 : v5.toInt = 0 := (fi_eq rfl (show (0 : Int32).toInt = 0 by decide)).mp c9
      refine lv_iconst (v := 0) hx hb dX8_isTold_20 (by decide) ?_
      have hk_0 : (0 : Int32).toInt = 0 := by decide
      exact tk_iret (v := 0) hx hb hr rfl hlocks (show 0 ≤ (0 : Int32).toInt ∧ (0 : Int32).toInt ≤ 1 ∧ 0 ≤ (0 : Int32).toInt ∧ (0 : Int32).toInt ≤ 1 from ⟨(by omega), (by omega), (by omega), (by omega)⟩) hG hS dX8_isTold_21
theorem dX8_setVerse_0 : decode cX8_setVerse 0 = .ok (.aload_n 0, 1) := by decide +kernel
theorem dX8_setVerse_1 : decode cX8_setVerse 1 = .ok (.getfield 12, 3) := by decide +kernel
theorem dX8_setVerse_4 : decode cX8_setVerse 4 = .ok (.getfield 48, 3) := by decide +kernel
theorem dX8_setVerse_7 : decode cX8_setVerse 7 = .ok (.astore 5, 2) := by decide +kernel
theorem dX8_setVerse_9 : decode cX8_setVerse 9 = .ok (.aload 5, 2) := by decide +kernel
theorem dX8_setVerse_11 : decode cX8_setVerse 11 = .ok (.iconst 0, 1) := by decide +kernel
theorem dX8_setVerse_12 : decode cX8_setVerse 12 = .ok (.aload_n 0, 1) := by decide +kernel
theorem dX8_setVerse_13 : decode cX8_setVerse 13 = .ok (.getfield 18, 3) := by decide +kernel
theorem dX8_setVerse_16 : decode cX8_setVerse 16 = .ok (.getfield 52, 3) := by decide +kernel
theorem dX8_setVerse_19 : decode cX8_setVerse 19 = .ok (.iload_n 2, 1) := by decide +kernel
theorem dX8_setVerse_20 : decode cX8_setVerse 20 = .ok (.iaload, 1) := by decide +kernel
theorem dX8_setVerse_21 : decode cX8_setVerse 21 = .ok (.iastore, 1) := by decide +kernel
theorem dX8_setVerse_22 : decode cX8_setVerse 22 = .ok (.aload 5, 2) := by decide +kernel
theorem dX8_setVerse_24 : decode cX8_setVerse 24 = .ok (.iconst 1, 1) := by decide +kernel
theorem dX8_setVerse_25 : decode cX8_setVerse 25 = .ok (.aload_n 0, 1) := by decide +kernel
theorem dX8_setVerse_26 : decode cX8_setVerse 26 = .ok (.getfield 18, 3) := by decide +kernel
theorem dX8_setVerse_29 : decode cX8_setVerse 29 = .ok (.getfield 138, 3) := by decide +kernel
theorem dX8_setVerse_32 : decode cX8_setVerse 32 = .ok (.iload_n 1, 1) := by decide +kernel
theorem dX8_setVerse_33 : decode cX8_setVerse 33 = .ok (.iaload, 1) := by decide +kernel
theorem dX8_setVerse_34 : decode cX8_setVerse 34 = .ok (.iastore, 1) := by decide +kernel
theorem dX8_setVerse_35 : decode cX8_setVerse 35 = .ok (.aload 5, 2) := by decide +kernel
theorem dX8_setVerse_37 : decode cX8_setVerse 37 = .ok (.iconst 2, 1) := by decide +kernel
theorem dX8_setVerse_38 : decode cX8_setVerse 38 = .ok (.aload_n 0, 1) := by decide +kernel
theorem dX8_setVerse_39 : decode cX8_setVerse 39 = .ok (.getfield 18, 3) := by decide +kernel
theorem dX8_setVerse_42 : decode cX8_setVerse 42 = .ok (.getfield 103, 3) := by decide +kernel
theorem dX8_setVerse_45 : decode cX8_setVerse 45 = .ok (.iload_n 1, 1) := by decide +kernel
theorem dX8_setVerse_46 : decode cX8_setVerse 46 = .ok (.iaload, 1) := by decide +kernel
theorem dX8_setVerse_47 : decode cX8_setVerse 47 = .ok (.iastore, 1) := by decide +kernel
theorem dX8_setVerse_48 : decode cX8_setVerse 48 = .ok (.aload 5, 2) := by decide +kernel
theorem dX8_setVerse_50 : decode cX8_setVerse 50 = .ok (.iconst 3, 1) := by decide +kernel
theorem dX8_setVerse_51 : decode cX8_setVerse 51 = .ok (.iload 4, 2) := by decide +kernel
theorem dX8_setVerse_53 : decode cX8_setVerse 53 = .ok (.iastore, 1) := by decide +kernel
theorem dX8_setVerse_54 : decode cX8_setVerse 54 = .ok (.aload 5, 2) := by decide +kernel
theorem dX8_setVerse_56 : decode cX8_setVerse 56 = .ok (.iconst 4, 1) := by decide +kernel
theorem dX8_setVerse_57 : decode cX8_setVerse 57 = .ok (.iload_n 3, 1) := by decide +kernel
theorem dX8_setVerse_58 : decode cX8_setVerse 58 = .ok (.iastore, 1) := by decide +kernel
theorem dX8_setVerse_59 : decode cX8_setVerse 59 = .ok (.aload 5, 2) := by decide +kernel
theorem dX8_setVerse_61 : decode cX8_setVerse 61 = .ok (.bipush 8, 2) := by decide +kernel
theorem dX8_setVerse_63 : decode cX8_setVerse 63 = .ok (.aload_n 0, 1) := by decide +kernel
theorem dX8_setVerse_64 : decode cX8_setVerse 64 = .ok (.getfield 18, 3) := by decide +kernel
theorem dX8_setVerse_67 : decode cX8_setVerse 67 = .ok (.getfield 64, 3) := by decide +kernel
theorem dX8_setVerse_70 : decode cX8_setVerse 70 = .ok (.iastore, 1) := by decide +kernel
theorem dX8_setVerse_71 : decode cX8_setVerse 71 = .ok (.return_, 1) := by decide +kernel
set_option maxHeartbeats 4000000 in
set_option maxRecDepth 100000 in
theorem k_X8_setVerse (l : Launch) (D : va_G) (cy : Nat → ClassId) (ld : Nat → Nat) (t : tk_T) (a0 : Nat) (p1 : Int32) (p2 : Int32) (p3 : Int32) (p4 : Int32) (ht_a0 : t a0 = (9, 0, 0)) (hp_0 : 0 ≤ p1.toInt) (hp_1 : p1.toInt ≤ 9) (hp_2 : 0 ≤ p2.toInt) (hp_3 : p2.toInt ≤ 7) : Met l yX8_setVerse (wl yX8_setVerse cX8_setVerse 6 none) ({ frames := 3, cells := 0, slots := 0, locals := 140 }) (tp D cy ld t [] [.ref a0, .int p1, .int p2, .int p3, .int p4] (fun H => True)) (tv D cy ld t [] (fun H => True) (tk_w t [(20, 0, 0)])) 0 0 (tk_w t [(20, 0, 0)]) := by
  refine tk_met (y := yX8_setVerse) (cc := cX8_setVerse) (maxL := 6) (ret := none) (av := [.ref a0, .int p1, .int p2, .int p3, .int p4]) _ _ (by decide) (Nat.le_of_ble_eq_true rfl) ?_
  intro p e s m args below meth c hx hb hr hml hts htl hown hlocks hK H locs hH hG hS hB hZ ls hl
  have hown : s.vm.findClass RX8 = some m.cls := hown
  have hl : lv_has ls 6 [(0, .ref a0), (1, .int p1), (2, .int p2), (3, .int p3), (4, .int p4)] := hl
  have hr_p1 := tk_rng p1
  have hr_p2 := tk_rng p2
  have hr_p3 := tk_rng p3
  have hr_p4 := tk_rng p4
  refine lv_aload_n hx hb dX8_setVerse_0 rfl (lv_at hl 0 rfl) ?_
  refine tk_get (ci := 8) (C := RX8) (T := TX8) (N := 3) (sp := (6, 12, 0, 0)) hx hb htl inX8 hown hK hG ht_a0 (by decide) tk_no rfl 0 (by decide) (htl _ mw_96) (fun _ h9 => h9) rfl dX8_setVerse_1 (fun v9 hf1 hV9 => ?_)
  obtain ⟨b2, rfl, ht_b2⟩ := hV9
  have ht_b2 : t b2 = (12, 0, 0) := ht_b2
  refine tk_get (ci := 11) (C := RX11) (T := TX11) (N := 3) (sp := (6, 20, 15, 0)) hx hb htl inX11 hown hK hG ht_b2 (by decide) tk_no rfl 0 (by decide) (htl _ mw_917) (fun _ h9 => h9) rfl dX8_setVerse_4 (fun v9 hf3 hV9 => ?_)
  obtain ⟨b4, rfl, ht_b4⟩ := hV9
  have ht_b4 : t b4 = (20, 15, 0) := ht_b4
  refine lv_astore (lv' := [(5, .ref b4), (0, .ref a0), (1, .int p1), (2, .int p2), (3, .int p3), (4, .int p4)]) hx hb dX8_setVerse_7 hl (by decide) rfl (fun ls hl => ?_)
  refine lv_aload hx hb dX8_setVerse_9 (lv_at hl 0 rfl) ?_
  refine lv_iconst (v := 0) hx hb dX8_setVerse_11 (by decide) ?_
  refine lv_aload_n hx hb dX8_setVerse_12 rfl (lv_at hl 1 rfl) ?_
  refine tk_get (ci := 8) (C := RX8) (T := TX8) (N := 3) (sp := (8, 20, 3, 0)) hx hb htl inX8 hown hK hG ht_a0 (by decide) tk_no rfl 1 (by decide) (htl _ mw_97) (fun _ h9 => h9) rfl dX8_setVerse_13 (fun v9 hf5 hV9 => ?_)
  obtain ⟨rfl, ht_ld20⟩ := hV9
  have ht_ld20 : t (ld 20) = (3, 0, 0) := ht_ld20
  refine fx_top (v := .ref (ld 20)) rfl ?_
  refine tk_get (ci := 2) (C := RX2) (T := TX2) (N := 20) (sp := (1, 20, 8, 0)) hx hb htl inX2 hown hK hG ht_ld20 (by decide) tk_no rfl 1 (by decide) (htl _ mw_919) (fun _ h9 => h9) rfl dX8_setVerse_16 (fun v9 hf6 hV9 => ?_)
  obtain ⟨b7, rfl, ht_b7⟩ := hV9
  have ht_b7 : t b7 = (20, 8, 0) := ht_b7
  refine lv_iload_n hx hb dX8_setVerse_19 rfl (lv_at hl 3 rfl) ?_
  refine tk_iald hx hb hK hG ht_b7 (by decide) (fun _ h => h) tk_no rfl (by omega) (by omega) dX8_setVerse_20 (fun v8 _ _ => ?_)
  have hr_v8 := tk_rng v8
  refine tk_iast hx hb hK hG hS ht_b4 (by decide) (fun _ => Iff.rfl) tk_no (I := 0) (by decide) (by decide) (by decide) trivial (tk_w.of ht_b4 (by decide) (List.mem_of_getElem? (i := 0) rfl) (Nat.le_refl _) (Nat.le_refl _)) dX8_setVerse_21 (fun H locs hG hS hq9 => ?_)
  refine lv_aload hx hb dX8_setVerse_22 (lv_at hl 0 rfl) ?_
  refine lv_iconst (v := 1) hx hb dX8_setVerse_24 (by decide) ?_
  refine lv_aload_n hx hb dX8_setVerse_25 rfl (lv_at hl 1 rfl) ?_
  refine tk_get (ci := 8) (C := RX8) (T := TX8) (N := 3) (sp := (8, 20, 3, 0)) hx hb htl inX8 hown hK hG ht_a0 (by decide) tk_no rfl 1 (by decide) (htl _ mw_97) (fun _ h9 => h9) rfl dX8_setVerse_26 (fun v9 hf10 hV9 => ?_)
  obtain ⟨rfl, ht_ld20⟩ := hV9
  have ht_ld20 : t (ld 20) = (3, 0, 0) := ht_ld20
  refine fx_top (v := .ref (ld 20)) rfl ?_
  refine tk_get (ci := 2) (C := RX2) (T := TX2) (N := 20) (sp := (11, 80, 33, 10)) hx hb htl inX2 hown hK hG ht_ld20 (by decide) tk_no rfl 5 (by decide) (htl _ mw_930) (fun _ h9 => h9) rfl dX8_setVerse_29 (fun v9 hf11 hV9 => ?_)
  obtain ⟨rfl, ht_ld80⟩ := hV9
  have ht_ld80 : t (ld 80) = (33, 10, 0) := ht_ld80
  refine fx_top (v := .ref (ld 80)) rfl ?_
  refine lv_iload_n hx hb dX8_setVerse_32 rfl (lv_at hl 2 rfl) ?_
  refine tk_iald hx hb hK hG ht_ld80 (by decide) (fun _ h => h) tk_no rfl (by omega) (by omega) dX8_setVerse_33 (fun v12 _ _ => ?_)
  have hr_v12 := tk_rng v12
  refine tk_iast hx hb hK hG hS ht_b4 (by decide) (fun _ => Iff.rfl) tk_no (I := 1) (by decide) (by decide) (by decide) trivial (tk_w.of ht_b4 (by decide) (List.mem_of_getElem? (i := 0) rfl) (Nat.le_refl _) (Nat.le_refl _)) dX8_setVerse_34 (fun H locs hG hS hq9 => ?_)
  refine lv_aload hx hb dX8_setVerse_35 (lv_at hl 0 rfl) ?_
  refine lv_iconst (v := 2) hx hb dX8_setVerse_37 (by decide) ?_
  refine lv_aload_n hx hb dX8_setVerse_38 rfl (lv_at hl 1 rfl) ?_
  refine tk_get (ci := 8) (C := RX8) (T := TX8) (N := 3) (sp := (8, 20, 3, 0)) hx hb htl inX8 hown hK hG ht_a0 (by decide) tk_no rfl 1 (by decide) (htl _ mw_97) (fun _ h9 => h9) rfl dX8_setVerse_39 (fun v9 hf14 hV9 => ?_)
  obtain ⟨rfl, ht_ld20⟩ := hV9
  have ht_ld20 : t (ld 20) = (3, 0, 0) := ht_ld20
  refine fx_top (v := .ref (ld 20)) rfl ?_
  refine tk_get (ci := 2) (C := RX2) (T := TX2) (N := 20) (sp := (11, 90, 34, 10)) hx hb htl inX2 hown hK hG ht_ld20 (by decide) tk_no rfl 6 (by decide) (htl _ mw_915) (fun _ h9 => h9) rfl dX8_setVerse_42 (fun v9 hf15 hV9 => ?_)
  obtain ⟨rfl, ht_ld90⟩ := hV9
  have ht_ld90 : t (ld 90) = (34, 10, 0) := ht_ld90
  refine fx_top (v := .ref (ld 90)) rfl ?_
  refine lv_iload_n hx hb dX8_setVerse_45 rfl (lv_at hl 2 rfl) ?_
  refine tk_iald hx hb hK hG ht_ld90 (by decide) (fun _ h => h) tk_no rfl (by omega) (by omega) dX8_setVerse_46 (fun v16 _ _ => ?_)
  have hr_v16 := tk_rng v16
  refine tk_iast hx hb hK hG hS ht_b4 (by decide) (fun _ => Iff.rfl) tk_no (I := 2) (by decide) (by decide) (by decide) trivial (tk_w.of ht_b4 (by decide) (List.mem_of_getElem? (i := 0) rfl) (Nat.le_refl _) (Nat.le_refl _)) dX8_setVerse_47 (fun H locs hG hS hq9 => ?_)
  refine lv_aload hx hb dX8_setVerse_48 (lv_at hl 0 rfl) ?_
  refine lv_iconst (v := 3) hx hb dX8_setVerse_50 (by decide) ?_
  refine lv_iload hx hb dX8_setVerse_51 (lv_at hl 5 rfl) ?_
  refine tk_iast hx hb hK hG hS ht_b4 (by decide) (fun _ => Iff.rfl) tk_no (I := 3) (by decide) (by decide) (by decide) trivial (tk_w.of ht_b4 (by decide) (List.mem_of_getElem? (i := 0) rfl) (Nat.le_refl _) (Nat.le_refl _)) dX8_setVerse_53 (fun H locs hG hS hq9 => ?_)
  refine lv_aload hx hb dX8_setVerse_54 (lv_at hl 0 rfl) ?_
  refine lv_iconst (v := 4) hx hb dX8_setVerse_56 (by decide) ?_
  refine lv_iload_n hx hb dX8_setVerse_57 rfl (lv_at hl 4 rfl) ?_
  refine tk_iast hx hb hK hG hS ht_b4 (by decide) (fun _ => Iff.rfl) tk_no (I := 4) (by decide) (by decide) (by decide) trivial (tk_w.of ht_b4 (by decide) (List.mem_of_getElem? (i := 0) rfl) (Nat.le_refl _) (Nat.le_refl _)) dX8_setVerse_58 (fun H locs hG hS hq9 => ?_)
  refine lv_aload hx hb dX8_setVerse_59 (lv_at hl 0 rfl) ?_
  refine lv_bipush (v := 8) hx hb dX8_setVerse_61 (by decide) ?_
  refine lv_aload_n hx hb dX8_setVerse_63 rfl (lv_at hl 1 rfl) ?_
  refine tk_get (ci := 8) (C := RX8) (T := TX8) (N := 3) (sp := (8, 20, 3, 0)) hx hb htl inX8 hown hK hG ht_a0 (by decide) tk_no rfl 1 (by decide) (htl _ mw_97) (fun _ h9 => h9) rfl dX8_setVerse_64 (fun v9 hf20 hV9 => ?_)
  obtain ⟨rfl, ht_ld20⟩ := hV9
  have ht_ld20 : t (ld 20) = (3, 0, 0) := ht_ld20
  refine fx_top (v := .ref (ld 20)) rfl ?_
  refine tk_get (ci := 2) (C := RX2) (T := TX2) (N := 20) (sp := (0, (-2147483648), 2147483647, 0)) hx hb htl inX2 hown hK hG ht_ld20 (by decide) tk_no rfl 18 (by decide) (htl _ mw_931) (fun _ h9 => h9) rfl dX8_setVerse_67 (fun v9 hf21 hV9 => ?_)
  obtain ⟨v22, rfl, (ha_v22 : (-2147483648) ≤ v22.toInt), (hb_v22 : v22.toInt ≤ 2147483647)⟩ := hV9
  refine tk_iast hx hb hK hG hS ht_b4 (by decide) (fun _ => Iff.rfl) tk_no (I := 8) (by decide) (by decide) (by decide) trivial (tk_w.of ht_b4 (by decide) (List.mem_of_getElem? (i := 0) rfl) (Nat.le_refl _) (Nat.le_refl _)) dX8_setVerse_70 (fun H locs hG hS hq9 => ?_)
  exact tk_vret hx hb hr hlocks trivial hG hS dX8_setVerse_71
