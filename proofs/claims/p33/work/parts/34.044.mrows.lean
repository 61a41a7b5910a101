theorem dX13_emit_0 : decode cX13_emit 0 = .ok (.aload_n 0, 1) := by decide +kernel
theorem dX13_emit_1 : decode cX13_emit 1 = .ok (.getfield 45, 3) := by decide +kernel
theorem dX13_emit_4 : decode cX13_emit 4 = .ok (.aload_n 0, 1) := by decide +kernel
theorem dX13_emit_5 : decode cX13_emit 5 = .ok (.getfield 275, 3) := by decide +kernel
theorem dX13_emit_8 : decode cX13_emit 8 = .ok (.iload_n 1, 1) := by decide +kernel
theorem dX13_emit_9 : decode cX13_emit 9 = .ok (.iastore, 1) := by decide +kernel
theorem dX13_emit_10 : decode cX13_emit 10 = .ok (.aload_n 0, 1) := by decide +kernel
theorem dX13_emit_11 : decode cX13_emit 11 = .ok (.getfield 48, 3) := by decide +kernel
theorem dX13_emit_14 : decode cX13_emit 14 = .ok (.aload_n 0, 1) := by decide +kernel
theorem dX13_emit_15 : decode cX13_emit 15 = .ok (.getfield 275, 3) := by decide +kernel
theorem dX13_emit_18 : decode cX13_emit 18 = .ok (.iload_n 2, 1) := by decide +kernel
theorem dX13_emit_19 : decode cX13_emit 19 = .ok (.iastore, 1) := by decide +kernel
theorem dX13_emit_20 : decode cX13_emit 20 = .ok (.aload_n 0, 1) := by decide +kernel
theorem dX13_emit_21 : decode cX13_emit 21 = .ok (.dup, 1) := by decide +kernel
theorem dX13_emit_22 : decode cX13_emit 22 = .ok (.getfield 275, 3) := by decide +kernel
theorem dX13_emit_25 : decode cX13_emit 25 = .ok (.iconst 1, 1) := by decide +kernel
theorem dX13_emit_26 : decode cX13_emit 26 = .ok (.iadd, 1) := by decide +kernel
theorem dX13_emit_27 : decode cX13_emit 27 = .ok (.putfield 275, 3) := by decide +kernel
theorem dX13_emit_30 : decode cX13_emit 30 = .ok (.return_, 1) := by decide +kernel
set_option maxHeartbeats 4000000 in
set_option maxRecDepth 100000 in
theorem k_X13_emit (l : Launch) (D : va_G) (cy : Nat → ClassId) (ld ad : Nat → Nat) (am : Nat) (hD : mz_D ad am) (Fa : Nat → Int32) (Ga : Nat → Int64) (Ra : Nat → Nat → Int32) (Sa : Nat → Nat → Int64) (p1 : Int32) (p2 : Int32) (gc : Int32) (hIF : mz_IF false Fa) (hIG : mz_IG Ga) (hIR : mz_IR [] true Ra) (hg_0 : Fa 23 = gc) (hp_0 : gc.toInt ≤ 399) : Met l yX13_emit (wl yX13_emit cX13_emit 3 none) ({ frames := 3, cells := 0, slots := 0, locals := 140 }) (mz_p D cy ld ad am Fa Ga Ra Sa [.ref am, .int p1, .int p2]) (mz_w D cy ad am (fun F G R S => mz_IF false F ∧ mz_IG G ∧ mz_IR [] true R ∧ (∀ k : Nat, k ∉ ([23] : List Nat) → F k = Fa k) ∧ (∀ k : Nat, k ∉ ([24, 25] : List Nat) → R k = Ra k) ∧ (∀ k : Nat, k ∉ ([] : List Nat) → G k = Ga k) ∧ (-1) * gc.toInt + (F 23).toInt + (-1) = 0 ∧ R 24 = upd (Ra 24) gc.toInt.toNat p1 ∧ R 25 = upd (Ra 25) gc.toInt.toNat p2)) 0 0 (mz_W ad am) := by
  refine mz_met (y := yX13_emit) (cc := cX13_emit) (maxL := 3) (ret := none) (av := [.ref am, .int p1, .int p2]) _ (by decide) (Nat.le_of_ble_eq_true rfl) ?_
  intro p e s m args below meth c hx hb hr hml hts htl hown hlocks hK H locs hM hS ls hl
  have hown : s.vm.findClass RX13 = some m.cls := hown
  have hl : lv_has ls 3 [(0, .ref am), (1, .int p1), (2, .int p2)] := hl
  have hr_p1 := tk_rng p1
  have hr_p2 := tk_rng p2
  have hq_gc := tk_rng gc
  have hr_gc : 0 ≤ gc.toInt ∧ gc.toInt ≤ 400 := hIF.at hg_0
  refine lv_aload_n hx hb dX13_emit_0 rfl (lv_at hl 0 rfl) ?_
  refine mz_getR hx hb htl hown hK hM 24 (Nat.le_of_ble_eq_true rfl) (Nat.le_of_ble_eq_true rfl) (htl _ mw_198) (fun _ h9 => h9) dX13_emit_1 ?_
  refine lv_aload_n hx hb dX13_emit_4 rfl (lv_at hl 0 rfl) ?_
  refine mz_getI hx hb htl hown hK hM 23 (Nat.le_of_ble_eq_true rfl) rfl (htl _ mw_670) (fun _ h9 => h9) dX13_emit_5 (fun v9 e9 => ?_)
  refine fx_ti (v := gc) (e9.symm.trans hg_0) ?_
  refine lv_iload_n hx hb dX13_emit_8 rfl (lv_at hl 1 rfl) ?_
  refine mz_iast (x := p1) hx hb hK hD hM hS 24 (Nat.le_of_ble_eq_true rfl) rfl (nn := 400) rfl rfl (by omega) (by omega) dX13_emit_9 (fun H locs R hM hS hw9 hj9 => ?_)
  have hIR := hIR.put hw9 hj9 trivial
  have hRR := mz_frp (K := [24, 25]) (Fa := Ra) hj9 (fun _ _ => rfl) (by decide)
  have hre_24 : R 24 = upd (Ra 24) (gc : Int32).toNatClampNeg p1 := hw9.trans (congrArg (fun f => upd f (gc : Int32).toNatClampNeg p1) (rfl : Ra 24 = Ra 24))
  have hre_25 : R 25 = Ra 25 := (hj9 25 (by decide)).trans (rfl : Ra 25 = Ra 25)
  refine lv_aload_n hx hb dX13_emit_10 rfl (lv_at hl 0 rfl) ?_
  refine mz_getR hx hb htl hown hK hM 25 (Nat.le_of_ble_eq_true rfl) (Nat.le_of_ble_eq_true rfl) (htl _ mw_199) (fun _ h9 => h9) dX13_emit_11 ?_
  refine lv_aload_n hx hb dX13_emit_14 rfl (lv_at hl 0 rfl) ?_
  refine mz_getI hx hb htl hown hK hM 23 (Nat.le_of_ble_eq_true rfl) rfl (htl _ mw_670) (fun _ h9 => h9) dX13_emit_15 (fun v9 e9 => ?_)
  refine fx_ti (v := gc) (e9.symm.trans hg_0) ?_
  refine lv_iload_n hx hb dX13_emit_18 rfl (lv_at hl 2 rfl) ?_
  refine mz_iast (x := p2) hx hb hK hD hM hS 25 (Nat.le_of_ble_eq_true rfl) rfl (nn := 400) rfl rfl (by omega) (by omega) dX13_emit_19 (fun H locs R hM hS hw9 hj9 => ?_)
  have hIR := hIR.put hw9 hj9 trivial
  have hRR := mz_frp (K := [24, 25]) (Fa := Ra) hj9 hRR (by decide)
  have hre_24 : R 24 = upd (Ra 24) (gc : Int32).toNatClampNeg p1 := (hj9 24 (by decide)).trans hre_24
  have hre_25 : R 25 = upd (Ra 25) (gc : Int32).toNatClampNeg p2 := hw9.trans (congrArg (fun f => upd f (gc : Int32).toNatClampNeg p2) hre_25)
  refine lv_aload_n hx hb dX13_emit_20 rfl (lv_at hl 0 rfl) ?_
  refine lv_dup hx hb dX13_emit_21 rfl ?_
  refine mz_getI hx hb htl hown hK hM 23 (Nat.le_of_ble_eq_true rfl) rfl (htl _ mw_670) (fun _ h9 => h9) dX13_emit_22 (fun v9 e9 => ?_)
  refine fx_ti (v := gc) (e9.symm.trans hg_0) ?_
  refine lv_iconst (v := 1) hx hb dX13_emit_25 (by decide) ?_
  refine lv_iadd hx hb dX13_emit_26 ?_
  refine tk_add rfl (show (1 : Int32).toInt = 1 by decide) (by omega) (by omega) (fun v3 h_v3 => ?_)
  refine mz_putI (ty := .int) (x := v3) hx hb htl hown hK hD hM hS 23 (Nat.le_of_ble_eq_true rfl) rfl (htl _ mw_670) (fun _ h9 => h9) rfl (tyX13_ok 23 (by decide)) rfl rfl dX13_emit_27 (fun H locs F hM hS hf9 hj9 => ?_)
  have hIF := hIF.put hf9 hj9 (show 0 ≤ (v3 : Int32).toInt by omega) (show (v3 : Int32).toInt ≤ 400 by omega) (by decide)
  have hFF := mz_frp (K := [23]) (Fa := Fa) hj9 (fun _ _ => rfl) (by decide)
  have hf5 := hf9
  exact mz_vret hx hb hr hlocks ⟨hIF, hIG, hIR, hFF, hRR, (fun _ _ => rfl), (by rw [hf5]; omega), hre_24, hre_25⟩ hM hS dX13_emit_30
