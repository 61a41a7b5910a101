theorem dX13_four_0 : decode cX13_four 0 = .ok (.bipush 24, 2) := by decide +kernel
theorem dX13_four_2 : decode cX13_four 2 = .ok (.istore_n 2, 1) := by decide +kernel
theorem dX13_four_3 : decode cX13_four 3 = .ok (.iload_n 2, 1) := by decide +kernel
theorem dX13_four_4 : decode cX13_four 4 = .ok (.ifCond .lt 35, 3) := by decide +kernel
theorem dX13_four_7 : decode cX13_four 7 = .ok (.aload_n 0, 1) := by decide +kernel
theorem dX13_four_8 : decode cX13_four 8 = .ok (.getfield 35, 3) := by decide +kernel
theorem dX13_four_11 : decode cX13_four 11 = .ok (.aload_n 0, 1) := by decide +kernel
theorem dX13_four_12 : decode cX13_four 12 = .ok (.getfield 224, 3) := by decide +kernel
theorem dX13_four_15 : decode cX13_four 15 = .ok (.iload_n 1, 1) := by decide +kernel
theorem dX13_four_16 : decode cX13_four 16 = .ok (.iload_n 2, 1) := by decide +kernel
theorem dX13_four_17 : decode cX13_four 17 = .ok (.ishr, 1) := by decide +kernel
theorem dX13_four_18 : decode cX13_four 18 = .ok (.sipush 255, 3) := by decide +kernel
theorem dX13_four_21 : decode cX13_four 21 = .ok (.iand, 1) := by decide +kernel
theorem dX13_four_22 : decode cX13_four 22 = .ok (.iastore, 1) := by decide +kernel
theorem dX13_four_23 : decode cX13_four 23 = .ok (.aload_n 0, 1) := by decide +kernel
theorem dX13_four_24 : decode cX13_four 24 = .ok (.dup, 1) := by decide +kernel
theorem dX13_four_25 : decode cX13_four 25 = .ok (.getfield 224, 3) := by decide +kernel
theorem dX13_four_28 : decode cX13_four 28 = .ok (.iconst 1, 1) := by decide +kernel
theorem dX13_four_29 : decode cX13_four 29 = .ok (.iadd, 1) := by decide +kernel
theorem dX13_four_30 : decode cX13_four 30 = .ok (.putfield 224, 3) := by decide +kernel
theorem dX13_four_33 : decode cX13_four 33 = .ok (.iinc 2 (-8), 3) := by decide +kernel
theorem dX13_four_36 : decode cX13_four 36 = .ok (.goto (-33), 3) := by decide +kernel
theorem dX13_four_39 : decode cX13_four 39 = .ok (.return_, 1) := by decide +kernel
set_option maxHeartbeats 4000000 in
set_option maxRecDepth 100000 in
theorem k_X13_four (l : Launch) (D : va_G) (cy : Nat → ClassId) (ld ad : Nat → Nat) (am : Nat) (hD : mz_D ad am) (Fa : Nat → Int32) (Ga : Nat → Int64) (Ra : Nat → Nat → Int32) (Sa : Nat → Nat → Int64) (p1 : Int32) (g0 : Int32) (hIF : mz_IF true Fa) (hIG : mz_IG Ga) (hIR : mz_IR [] true Ra) (hg_0 : Fa 13 = g0) (hp_0 : 0 ≤ g0.toInt) (hp_1 : g0.toInt ≤ 396) : Met l yX13_four (wl yX13_four cX13_four 3 none) ({ frames := 3, cells := 0, slots := 0, locals := 140 }) (mz_p D cy ld ad am Fa Ga Ra Sa [.ref am, .int p1]) (mz_w D cy ad am (fun F G R S => mz_IF true F ∧ mz_IG G ∧ mz_IR [] true R ∧ (∀ k : Nat, k ∉ ([13] : List Nat) → F k = Fa k) ∧ (∀ k : Nat, k ∉ ([12] : List Nat) → R k = Ra k) ∧ (∀ k : Nat, k ∉ ([] : List Nat) → G k = Ga k) ∧ (-1) * g0.toInt + (F 13).toInt + (-4) = 0)) 0 0 (mz_W ad am) := by
  refine mz_met (y := yX13_four) (cc := cX13_four) (maxL := 3) (ret := none) (av := [.ref am, .int p1]) _ (by decide) (Nat.le_of_ble_eq_true rfl) ?_
  intro p e s m args below meth c hx hb hr hml hts htl hown hlocks hK H locs hM hS ls hl
  have hown : s.vm.findClass RX13 = some m.cls := hown
  have hl : lv_has ls 3 [(0, .ref am), (1, .int p1)] := hl
  have hr_p1 := tk_rng p1
  have hq_g0 := tk_rng g0
  have hr_g0 : 0 ≤ g0.toInt ∧ g0.toInt ≤ 400 := hIF.at hg_0
  refine lv_bipush (v := 24) hx hb dX13_four_0 (by decide) ?_
  refine lv_istore_n (lv' := [(2, .int 24), (0, .ref am), (1, .int p1)]) hx hb dX13_four_2 rfl hl (by decide) rfl (fun ls hl => ?_)
  refine lv_iload_n hx hb dX13_four_3 rfl (lv_at hl 0 rfl) ?_
  refine lv_if_lt (tgt := 39) hx hb dX13_four_4 (by decide) (fun c9 => absurd c9 (by decide)) (fun _ => ?_)
  refine lv_aload_n hx hb dX13_four_7 rfl (lv_at hl 1 rfl) ?_
  refine mz_getR hx hb htl hown hK hM 12 (Nat.le_of_ble_eq_true rfl) (Nat.le_of_ble_eq_true rfl) (htl _ mw_195) (fun _ h9 => h9) dX13_four_8 ?_
  refine lv_aload_n hx hb dX13_four_11 rfl (lv_at hl 1 rfl) ?_
  refine mz_getI hx hb htl hown hK hM 13 (Nat.le_of_ble_eq_true rfl) rfl (htl _ mw_431) (fun _ h9 => h9) dX13_four_12 (fun v9 e9 => ?_)
  refine fx_ti (v := g0) (e9.symm.trans hg_0) ?_
  refine lv_iload_n hx hb dX13_four_15 rfl (lv_at hl 2 rfl) ?_
  refine lv_iload_n hx hb dX13_four_16 rfl (lv_at hl 0 rfl) ?_
  refine lv_ishr hx hb dX13_four_17 ?_
  refine tk_any (fun v1 => ?_)
  refine lv_sipush (v := 255) hx hb dX13_four_18 (by decide) ?_
  refine lv_iand hx hb dX13_four_21 ?_
  refine tk_say (P := fun z => 0 ≤ z.toInt ∧ z.toInt ≤ 255) (tk_and v1 8 (by decide) (by decide)) (fun v2 h_v2 => ?_)
  refine mz_iast (x := v2) hx hb hK hD hM hS 12 (Nat.le_of_ble_eq_true rfl) rfl (nn := 400) rfl rfl (by omega) (by omega) dX13_four_22 (fun H locs R hM hS hw9 hj9 => ?_)
  have hIR := hIR.put hw9 hj9 trivial
  have hRR := mz_frp (K := [12]) (Fa := Ra) hj9 (fun _ _ => rfl) (by decide)
  refine lv_aload_n hx hb dX13_four_23 rfl (lv_at hl 1 rfl) ?_
  refine lv_dup hx hb dX13_four_24 rfl ?_
  refine mz_getI hx hb htl hown hK hM 13 (Nat.le_of_ble_eq_true rfl) rfl (htl _ mw_431) (fun _ h9 => h9) dX13_four_25 (fun v9 e9 => ?_)
  refine fx_ti (v := g0) (e9.symm.trans hg_0) ?_
  refine lv_iconst (v := 1) hx hb dX13_four_28 (by decide) ?_
  refine lv_iadd hx hb dX13_four_29 ?_
  refine tk_add rfl (show (1 : Int32).toInt = 1 by decide) (by omega) (by omega) (fun v4 h_v4 => ?_)
  refine mz_putI (ty := .int) (x := v4) hx hb htl hown hK hD hM hS 13 (Nat.le_of_ble_eq_true rfl) rfl (htl _ mw_431) (fun _ h9 => h9) rfl (tyX13_ok 13 (by decide)) rfl rfl dX13_four_30 (fun H locs F hM hS hf9 hj9 => ?_)
  have hIF := hIF.put hf9 hj9 (show 0 ≤ (v4 : Int32).toInt by omega) (show (v4 : Int32).toInt ≤ 400 by omega) (by decide)
  have hFF := mz_frp (K := [13]) (Fa := Fa) hj9 (fun _ _ => rfl) (by decide)
  have hf6 := hf9
  refine lv_iinc (v := 16) (lv' := [(2, .int 16), (0, .ref am), (1, .int p1)]) hx hb dX13_four_33 hl (k := 0) rfl (by decide) (by decide) rfl (fun ls hl => ?_)
  refine lv_goto (tgt := 3) hx hb dX13_four_36 (by decide) ?_
  refine lv_iload_n hx hb dX13_four_3 rfl (lv_at hl 0 rfl) ?_
  refine lv_if_lt (tgt := 39) hx hb dX13_four_4 (by decide) (fun c9 => absurd c9 (by decide)) (fun _ => ?_)
  refine lv_aload_n hx hb dX13_four_7 rfl (lv_at hl 1 rfl) ?_
  refine mz_getR hx hb htl hown hK hM 12 (Nat.le_of_ble_eq_true rfl) (Nat.le_of_ble_eq_true rfl) (htl _ mw_195) (fun _ h9 => h9) dX13_four_8 ?_
  refine lv_aload_n hx hb dX13_four_11 rfl (lv_at hl 1 rfl) ?_
  refine mz_getI hx hb htl hown hK hM 13 (Nat.le_of_ble_eq_true rfl) rfl (htl _ mw_431) (fun _ h9 => h9) dX13_four_12 (fun v9 e9 => ?_)
  refine fx_ti (v := v4) (e9.symm.trans hf6) ?_
  refine lv_iload_n hx hb dX13_four_15 rfl (lv_at hl 2 rfl) ?_
  refine lv_iload_n hx hb dX13_four_16 rfl (lv_at hl 0 rfl) ?_
  refine lv_ishr hx hb dX13_four_17 ?_
  refine tk_any (fun v10 => ?_)
  refine lv_sipush (v := 255) hx hb dX13_four_18 (by decide) ?_
  refine lv_iand hx hb dX13_four_21 ?_
  refine tk_say (P := fun z => 0 ≤ z.toInt ∧ z.toInt ≤ 255) (tk_and v10 8 (by decide) (by decide)) (fun v11 h_v11 => ?_)
  refine mz_iast (x := v11) hx hb hK hD hM hS 12 (Nat.le_of_ble_eq_true rfl) rfl (nn := 400) rfl rfl (by omega) (by omega) dX13_four_22 (fun H locs R hM hS hw9 hj9 => ?_)
  have hIR := hIR.put hw9 hj9 trivial
  have hRR := mz_frp (K := [12]) (Fa := Ra) hj9 hRR (by decide)
  refine lv_aload_n hx hb dX13_four_23 rfl (lv_at hl 1 rfl) ?_
  refine lv_dup hx hb dX13_four_24 rfl ?_
  refine mz_getI hx hb htl hown hK hM 13 (Nat.le_of_ble_eq_true rfl) rfl (htl _ mw_431) (fun _ h9 => h9) dX13_four_25 (fun v9 e9 => ?_)
  refine fx_ti (v := v4) (e9.symm.trans hf6) ?_
  refine lv_iconst (v := 1) hx hb dX13_four_28 (by decide) ?_
  refine lv_iadd hx hb dX13_four_29 ?_
  refine tk_add rfl (show (1 : Int32).toInt = 1 by decide) (by omega) (by omega) (fun v13 h_v13 => ?_)
  refine mz_putI (ty := .int) (x := v13) hx hb htl hown hK hD hM hS 13 (Nat.le_of_ble_eq_true rfl) rfl (htl _ mw_431) (fun _ h9 => h9) rfl (tyX13_ok 13 (by decide)) rfl rfl dX13_four_30 (fun H locs F hM hS hf9 hj9 => ?_)
  have hIF := hIF.put hf9 hj9 (show 0 ≤ (v13 : Int32).toInt by omega) (show (v13 : Int32).toInt ≤ 400 by omega) (by decide)
  have hFF := mz_frp (K := [13]) (Fa := Fa) hj9 hFF (by decide)
  have hf15 := hf9
  refine lv_iinc (v := 8) (lv' := [(2, .int 8), (0, .ref am), (1, .int p1)]) hx hb dX13_four_33 hl (k := 0) rfl (by decide) (by decide) rfl (fun ls hl => ?_)
  refine lv_goto (tgt := 3) hx hb dX13_four_36 (by decide) ?_
  refine lv_iload_n hx hb dX13_four_3 rfl (lv_at hl 0 rfl) ?_
  refine lv_if_lt (tgt := 39) hx hb dX13_four_4 (by decide) (fun c9 => absurd c9 (by decide)) (fun _ => ?_)
  refine lv_aload_n hx hb dX13_four_7 rfl (lv_at hl 1 rfl) ?_
  refine mz_getR hx hb htl hown hK hM 12 (Nat.le_of_ble_eq_true rfl) (Nat.le_of_ble_eq_true rfl) (htl _ mw_195) (fun _ h9 => h9) dX13_four_8 ?_
  refine lv_aload_n hx hb dX13_four_11 rfl (lv_at hl 1 rfl) ?_
  refine mz_getI hx hb htl hown hK hM 13 (Nat.le_of_ble_eq_true rfl) rfl (htl _ mw_431) (fun _ h9 => h9) dX13_four_12 (fun v9 e9 => ?_)
  refine fx_ti (v := v13) (e9.symm.trans hf15) ?_
  refine lv_iload_n hx hb dX13_four_15 rfl (lv_at hl 2 rfl) ?_
  refine lv_iload_n hx hb dX13_four_16 rfl (lv_at hl 0 rfl) ?_
  refine lv_ishr hx hb dX13_four_17 ?_
  refine tk_any (fun v16 => ?_)
  refine lv_sipush (v := 255) hx hb dX13_four_18 (by decide) ?_
  refine lv_iand hx hb dX13_four_21 ?_
  refine tk_say (P := fun z => 0 ≤ z.toInt ∧ z.toInt ≤ 255) (tk_and v16 8 (by decide) (by decide)) (fun v17 h_v17 => ?_)
  refine mz_iast (x := v17) hx hb hK hD hM hS 12 (Nat.le_of_ble_eq_true rfl) rfl (nn := 400) rfl rfl (by omega) (by omega) dX13_four_22 (fun H locs R hM hS hw9 hj9 => ?_)
  have hIR := hIR.put hw9 hj9 trivial
  have hRR := mz_frp (K := [12]) (Fa := Ra) hj9 hRR (by decide)
  refine lv_aload_n hx hb dX13_four_23 rfl (lv_at hl 1 rfl) ?_
  refine lv_dup hx hb dX13_four_24 rfl ?_
  refine mz_getI hx hb htl hown hK hM 13 (Nat.le_of_ble_eq_true rfl) rfl (htl _ mw_431) (fun _ h9 => h9) dX13_four_25 (fun v9 e9 => ?_)
  refine fx_ti (v := v13) (e9.symm.trans hf15) ?_
  refine lv_iconst (v := 1) hx hb dX13_four_28 (by decide) ?_
  refine lv_iadd hx hb dX13_four_29 ?_
  refine tk_add rfl (show (1 : Int32).toInt = 1 by decide) (by omega) (by omega) (fun v19 h_v19 => ?_)
  refine mz_putI (ty := .int) (x := v19) hx hb htl hown hK hD hM hS 13 (Nat.le_of_ble_eq_true rfl) rfl (htl _ mw_431) (fun _ h9 => h9) rfl (tyX13_ok 13 (by decide)) rfl rfl dX13_four_30 (fun H locs F hM hS hf9 hj9 => ?_)
  have hIF := hIF.put hf9 hj9 (show 0 ≤ (v19 : Int32).toInt by omega) (show (v19 : Int32).toInt ≤ 400 by omega) (by decide)
  have hFF := mz_frp (K := [13]) (Fa := Fa) hj9 hFF (by decide)
  have hf21 := hf9
  refine lv_iinc (v := 0) (lv' := [(2, .int 0), (0, .ref am), (1, .int p1)]) hx hb dX13_four_33 hl (k := 0) rfl (by decide) (by decide) rfl (fun ls hl => ?_)
  refine lv_goto (tgt := 3) hx hb dX13_four_36 (by decide) ?_
  refine lv_iload_n hx hb dX13_four_3 rfl (lv_at hl 0 rfl) ?_
  refine lv_if_lt (tgt := 39) hx hb dX13_four_4 (by decide) (fun c9 => absurd c9 (by decide)) (fun _ => ?_)
  refine lv_aload_n hx hb dX13_four_7 rfl (lv_at hl 1 rfl) ?_
  refine mz_getR hx hb htl hown hK hM 12 (Nat.le_of_ble_eq_true rfl) (Nat.le_of_ble_eq_true rfl) (htl _ mw_195) (fun _ h9 => h9) dX13_four_8 ?_
  refine lv_aload_n hx hb dX13_four_11 rfl (lv_at hl 1 rfl) ?_
  refine mz_getI hx hb htl hown hK hM 13 (Nat.le_of_ble_eq_true rfl) rfl (htl _ mw_431) (fun _ h9 => h9) dX13_four_12 (fun v9 e9 => ?_)
  refine fx_ti (v := v19) (e9.symm.trans hf21) ?_
  refine lv_iload_n hx hb dX13_four_15 rfl (lv_at hl 2 rfl) ?_
  refine lv_iload_n hx hb dX13_four_16 rfl (lv_at hl 0 rfl) ?_
  refine lv_ishr hx hb dX13_four_17 ?_
  refine tk_any (fun v22 => ?_)
  refine lv_sipush (v := 255) hx hb dX13_four_18 (by decide) ?_
  refine lv_iand hx hb dX13_four_21 ?_
  refine tk_say (P := fun z => 0 ≤ z.toInt ∧ z.toInt ≤ 255) (tk_and v22 8 (by decide) (by decide)) (fun v23 h_v23 => ?_)
  refine mz_iast (x := v23) hx hb hK hD hM hS 12 (Nat.le_of_ble_eq_true rfl) rfl (nn := 400) rfl rfl (by omega) (by omega) dX13_four_22 (fun H locs R hM hS hw9 hj9 => ?_)
  have hIR := hIR.put hw9 hj9 trivial
  have hRR := mz_frp (K := [12]) (Fa := Ra) hj9 hRR (by decide)
  refine lv_aload_n hx hb dX13_four_23 rfl (lv_at hl 1 rfl) ?_
  refine lv_dup hx hb dX13_four_24 rfl ?_
  refine mz_getI hx hb htl hown hK hM 13 (Nat.le_of_ble_eq_true rfl) rfl (htl _ mw_431) (fun _ h9 => h9) dX13_four_25 (fun v9 e9 => ?_)
  refine fx_ti (v := v19) (e9.symm.trans hf21) ?_
  refine lv_iconst (v := 1) hx hb dX13_four_28 (by decide) ?_
  refine lv_iadd hx hb dX13_four_29 ?_
  refine tk_add rfl (show (1 : Int32).toInt = 1 by decide) (by omega) (by omega) (fun v25 h_v25 => ?_)
  refine mz_putI (ty := .int) (x := v25) hx hb htl hown hK hD hM hS 13 (Nat.le_of_ble_eq_true rfl) rfl (htl _ mw_431) (fun _ h9 => h9) rfl (tyX13_ok 13 (by decide)) rfl rfl dX13_four_30 (fun H locs F hM hS hf9 hj9 => ?_)
  have hIF := hIF.put hf9 hj9 (show 0 ≤ (v25 : Int32).toInt by omega) (show (v25 : Int32).toInt ≤ 400 by omega) (by decide)
  have hFF := mz_frp (K := [13]) (Fa := Fa) hj9 hFF (by decide)
  have hf27 := hf9
  refine lv_iinc (v := (-8)) (lv' := [(2, .int (-8)), (0, .ref am), (1, .int p1)]) hx hb dX13_four_33 hl (k := 0) rfl (by decide) (by decide) rfl (fun ls hl => ?_)
  refine lv_goto (tgt := 3) hx hb dX13_four_36 (by decide) ?_
  refine lv_iload_n hx hb dX13_four_3 rfl (lv_at hl 0 rfl) ?_
  refine lv_if_lt (tgt := 39) hx hb dX13_four_4 (by decide) (fun _ => ?_) (fun c9 => absurd (by decide) c9)
  exact mz_vret hx hb hr hlocks ⟨hIF, hIG, hIR, hFF, hRR, (fun _ _ => rfl), (by rw [hf27]; omega)⟩ hM hS dX13_four_39
