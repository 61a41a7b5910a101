theorem dX13_push_0 : decode cX13_push 0 = .ok (.aload_n 0, 1) := by decide +kernel
theorem dX13_push_1 : decode cX13_push 1 = .ok (.getfield 51, 3) := by decide +kernel
theorem dX13_push_4 : decode cX13_push 4 = .ok (.aload_n 0, 1) := by decide +kernel
theorem dX13_push_5 : decode cX13_push 5 = .ok (.getfield 278, 3) := by decide +kernel
theorem dX13_push_8 : decode cX13_push 8 = .ok (.iload_n 1, 1) := by decide +kernel
theorem dX13_push_9 : decode cX13_push 9 = .ok (.iastore, 1) := by decide +kernel
theorem dX13_push_10 : decode cX13_push 10 = .ok (.aload_n 0, 1) := by decide +kernel
theorem dX13_push_11 : decode cX13_push 11 = .ok (.getfield 54, 3) := by decide +kernel
theorem dX13_push_14 : decode cX13_push 14 = .ok (.aload_n 0, 1) := by decide +kernel
theorem dX13_push_15 : decode cX13_push 15 = .ok (.getfield 278, 3) := by decide +kernel
theorem dX13_push_18 : decode cX13_push 18 = .ok (.iload_n 2, 1) := by decide +kernel
theorem dX13_push_19 : decode cX13_push 19 = .ok (.iastore, 1) := by decide +kernel
theorem dX13_push_20 : decode cX13_push 20 = .ok (.aload_n 0, 1) := by decide +kernel
theorem dX13_push_21 : decode cX13_push 21 = .ok (.dup, 1) := by decide +kernel
theorem dX13_push_22 : decode cX13_push 22 = .ok (.getfield 278, 3) := by decide +kernel
theorem dX13_push_25 : decode cX13_push 25 = .ok (.iconst 1, 1) := by decide +kernel
theorem dX13_push_26 : decode cX13_push 26 = .ok (.iadd, 1) := by decide +kernel
theorem dX13_push_27 : decode cX13_push 27 = .ok (.putfield 278, 3) := by decide +kernel
theorem dX13_push_30 : decode cX13_push 30 = .ok (.return_, 1) := by decide +kernel
set_option maxHeartbeats 4000000 in
set_option maxRecDepth 100000 in
theorem k_X13_push (l : Launch) (D : va_G) (cy : Nat → ClassId) (ld ad : Nat → Nat) (am : Nat) (hD : mz_D ad am) (Fa : Nat → Int32) (Ga : Nat → Int64) (Ra : Nat → Nat → Int32) (Sa : Nat → Nat → Int64) (p1 : Int32) (p2 : Int32) (gd : Int32) (hIF : mz_IF false Fa) (hIG : mz_IG Ga) (hIR : mz_IR [] true Ra) (hg_0 : Fa 29 = gd) (hp_0 : 0 ≤ p2.toInt) (hp_1 : p2.toInt ≤ 399) (hp_2 : gd.toInt ≤ 399) : Met l yX13_push (wl yX13_push cX13_push 3 none) ({ frames := 3, cells := 0, slots := 0, locals := 140 }) (mz_p D cy ld ad am Fa Ga Ra Sa [.ref am, .int p1, .int p2]) (mz_w D cy ad am (fun F G R S => mz_IF false F ∧ mz_IG G ∧ mz_IR [] true R ∧ (∀ k : Nat, k ∉ ([29] : List Nat) → F k = Fa k) ∧ (∀ k : Nat, k ∉ ([27, 28] : List Nat) → R k = Ra k) ∧ (∀ k : Nat, k ∉ ([] : List Nat) → G k = Ga k) ∧ (-1) * gd.toInt + (F 29).toInt + (-1) = 0 ∧ R 27 = upd (Ra 27) gd.toInt.toNat p1 ∧ R 28 = upd (Ra 28) gd.toInt.toNat p2)) 0 0 (mz_W ad am) := by
  refine mz_met (y := yX13_push) (cc := cX13_push) (maxL := 3) (ret := none) (av := [.ref am, .int p1, .int p2]) _ (by decide) (Nat.le_of_ble_eq_true rfl) ?_
  intro p e s m args below meth c hx hb hr hml hts htl hown hlocks hK H locs hM hS ls hl
  have hown : s.vm.findClass RX13 = some m.cls := hown
  have hl : lv_has ls 3 [(0, .ref am), (1, .int p1), (2, .int p2)] := hl
  have hr_p1 := tk_rng p1
  have hr_p2 := tk_rng p2
  have hq_gd := tk_rng gd
  have hr_gd : 0 ≤ gd.toInt ∧ gd.toInt ≤ 400 := hIF.at hg_0
  refine lv_aload_n hx hb dX13_push_0 rfl (lv_at hl 0 rfl) ?_
  refine mz_getR hx hb htl hown hK hM 27 (Nat.le_of_ble_eq_true rfl) (Nat.le_of_ble_eq_true rfl) (htl _ mw_200) (fun _ h9 => h9) dX13_push_1 ?_
  refine lv_aload_n hx hb dX13_push_4 rfl (lv_at hl 0 rfl) ?_
  refine mz_getI hx hb htl hown hK hM 29 (Nat.le_of_ble_eq_true rfl) rfl (htl _ mw_718) (fun _ h9 => h9) dX13_push_5 (fun v9 e9 => ?_)
  refine fx_ti (v := gd) (e9.symm.trans hg_0) ?_
  refine lv_iload_n hx hb dX13_push_8 rfl (lv_at hl 1 rfl) ?_
  refine mz_iast (x := p1) hx hb hK hD hM hS 27 (Nat.le_of_ble_eq_true rfl) rfl (nn := 400) rfl rfl (by omega) (by omega) dX13_push_9 (fun H locs R hM hS hw9 hj9 => ?_)
  have hIR := hIR.put hw9 hj9 trivial
  have hRR := mz_frp (K := [27, 28]) (Fa := Ra) hj9 (fun _ _ => rfl) (by decide)
  have hre_27 : R 27 = upd (Ra 27) (gd : Int32).toNatClampNeg p1 := hw9.trans (congrArg (fun f => upd f (gd : Int32).toNatClampNeg p1) (rfl : Ra 27 = Ra 27))
  have hre_28 : R 28 = Ra 28 := (hj9 28 (by decide)).trans (rfl : Ra 28 = Ra 28)
  refine lv_aload_n hx hb dX13_push_10 rfl (lv_at hl 0 rfl) ?_
  refine mz_getR hx hb htl hown hK hM 28 (Nat.le_of_ble_eq_true rfl) (Nat.le_of_ble_eq_true rfl) (htl _ mw_201) (fun _ h9 => h9) dX13_push_11 ?_
  refine lv_aload_n hx hb dX13_push_14 rfl (lv_at hl 0 rfl) ?_
  refine mz_getI hx hb htl hown hK hM 29 (Nat.le_of_ble_eq_true rfl) rfl (htl _ mw_718) (fun _ h9 => h9) dX13_push_15 (fun v9 e9 => ?_)
  refine fx_ti (v := gd) (e9.symm.trans hg_0) ?_
  refine lv_iload_n hx hb dX13_push_18 rfl (lv_at hl 2 rfl) ?_
  refine mz_iast (x := p2) hx hb hK hD hM hS 28 (Nat.le_of_ble_eq_true rfl) rfl (nn := 400) rfl rfl (by omega) (by omega) dX13_push_19 (fun H locs R hM hS hw9 hj9 => ?_)
  have hIR := hIR.put hw9 hj9 (mz_elp (hIR.at 28) (show 0 ≤ (p2 : Int32).toInt by omega) (show (p2 : Int32).toInt ≤ 399 by omega))
  have hRR := mz_frp (K := [27, 28]) (Fa := Ra) hj9 hRR (by decide)
  have hre_27 : R 27 = upd (Ra 27) (gd : Int32).toNatClampNeg p1 := (hj9 27 (by decide)).trans hre_27
  have hre_28 : R 28 = upd (Ra 28) (gd : Int32).toNatClampNeg p2 := hw9.trans (congrArg (fun f => upd f (gd : Int32).toNatClampNeg p2) hre_28)
  refine lv_aload_n hx hb dX13_push_20 rfl (lv_at hl 0 rfl) ?_
  refine lv_dup hx hb dX13_push_21 rfl ?_
  refine mz_getI hx hb htl hown hK hM 29 (Nat.le_of_ble_eq_true rfl) rfl (htl _ mw_718) (fun _ h9 => h9) dX13_push_22 (fun v9 e9 => ?_)
  refine fx_ti (v := gd) (e9.symm.trans hg_0) ?_
  refine lv_iconst (v := 1) hx hb dX13_push_25 (by decide) ?_
  refine lv_iadd hx hb dX13_push_26 ?_
  refine tk_add rfl (show (1 : Int32).toInt = 1 by decide) (by omega) (by omega) (fun v3 h_v3 => ?_)
  refine mz_putI (ty := .int) (x := v3) hx hb htl hown hK hD hM hS 29 (Nat.le_of_ble_eq_true rfl) rfl (htl _ mw_718) (fun _ h9 => h9) rfl (tyX13_ok 29 (by decide)) rfl rfl dX13_push_27 (fun H locs F hM hS hf9 hj9 => ?_)
  have hIF := hIF.put hf9 hj9 (show 0 ≤ (v3 : Int32).toInt by omega) (show (v3 : Int32).toInt ≤ 400 by omega) (by decide)
  have hFF := mz_frp (K := [29]) (Fa := Fa) hj9 (fun _ _ => rfl) (by decide)
  have hf5 := hf9
  exact mz_vret hx hb hr hlocks ⟨hIF, hIG, hIR, hFF, hRR, (fun _ _ => rfl), (by rw [hf5]; omega), hre_27, hre_28⟩ hM hS dX13_push_30
