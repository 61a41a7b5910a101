theorem dX13_setWake_0 : decode cX13_setWake 0 = .ok (.aload_n 0, 1) := by decide +kernel
theorem dX13_setWake_1 : decode cX13_setWake 1 = .ok (.getfield 13, 3) := by decide +kernel
theorem dX13_setWake_4 : decode cX13_setWake 4 = .ok (.bipush 18, 2) := by decide +kernel
theorem dX13_setWake_6 : decode cX13_setWake 6 = .ok (.iconst 5, 1) := by decide +kernel
theorem dX13_setWake_7 : decode cX13_setWake 7 = .ok (.iload_n 1, 1) := by decide +kernel
theorem dX13_setWake_8 : decode cX13_setWake 8 = .ok (.imul, 1) := by decide +kernel
theorem dX13_setWake_9 : decode cX13_setWake 9 = .ok (.iadd, 1) := by decide +kernel
theorem dX13_setWake_10 : decode cX13_setWake 10 = .ok (.iconst 0, 1) := by decide +kernel
theorem dX13_setWake_11 : decode cX13_setWake 11 = .ok (.iadd, 1) := by decide +kernel
theorem dX13_setWake_12 : decode cX13_setWake 12 = .ok (.iload_n 2, 1) := by decide +kernel
theorem dX13_setWake_13 : decode cX13_setWake 13 = .ok (.iastore, 1) := by decide +kernel
theorem dX13_setWake_14 : decode cX13_setWake 14 = .ok (.return_, 1) := by decide +kernel
set_option maxHeartbeats 4000000 in
set_option maxRecDepth 100000 in
theorem k_X13_setWake (l : Launch) (D : va_G) (cy : Nat → ClassId) (ld ad : Nat → Nat) (am : Nat) (hD : mz_D ad am) (Fa : Nat → Int32) (Ga : Nat → Int64) (Ra : Nat → Nat → Int32) (Sa : Nat → Nat → Int64) (p1 : Int32) (p2 : Int32) (hIF : mz_IF true Fa) (hIG : mz_IG Ga) (hIR : mz_IR [] true Ra) (hp_0 : 0 ≤ p1.toInt) (hp_1 : p1.toInt ≤ 7) : Met l yX13_setWake (wl yX13_setWake cX13_setWake 3 none) ({ frames := 3, cells := 0, slots := 0, locals := 140 }) (mz_p D cy ld ad am Fa Ga Ra Sa [.ref am, .int p1, .int p2]) (mz_w D cy ad am (fun F G R S => mz_IF true F ∧ mz_IG G ∧ mz_IR [] true R ∧ (∀ k : Nat, k ∉ ([] : List Nat) → F k = Fa k) ∧ (∀ k : Nat, k ∉ ([3] : List Nat) → R k = Ra k) ∧ (∀ k : Nat, k ∉ ([] : List Nat) → G k = Ga k) ∧ rK2 (Ra 3) (R 3))) 0 0 (mz_W ad am) := by
  refine mz_met (y := yX13_setWake) (cc := cX13_setWake) (maxL := 3) (ret := none) (av := [.ref am, .int p1, .int p2]) _ (by decide) (Nat.le_of_ble_eq_true rfl) ?_
  intro p e s m args below meth c hx hb hr hml hts htl hown hlocks hK H locs hM hS ls hl
  have hown : s.vm.findClass RX13 = some m.cls := hown
  have hl : lv_has ls 3 [(0, .ref am), (1, .int p1), (2, .int p2)] := hl
  have hr_p1 := tk_rng p1
  have hr_p2 := tk_rng p2
  refine lv_aload_n hx hb dX13_setWake_0 rfl (lv_at hl 0 rfl) ?_
  refine mz_getR hx hb htl hown hK hM 3 (Nat.le_of_ble_eq_true rfl) (Nat.le_of_ble_eq_true rfl) (htl _ mw_188) (fun _ h9 => h9) dX13_setWake_1 ?_
  refine lv_bipush (v := 18) hx hb dX13_setWake_4 (by decide) ?_
  refine lv_iconst (v := 5) hx hb dX13_setWake_6 (by decide) ?_
  refine lv_iload_n hx hb dX13_setWake_7 rfl (lv_at hl 1 rfl) ?_
  refine lv_imul hx hb dX13_setWake_8 ?_
  refine tk_mul (show (5 : Int32).toInt = 5 by decide) rfl (by omega) (by omega) (fun v1 h_v1 => ?_)
  refine lv_iadd hx hb dX13_setWake_9 ?_
  refine tk_add (show (18 : Int32).toInt = 18 by decide) rfl (by omega) (by omega) (fun v2 h_v2 => ?_)
  refine lv_iconst (v := 0) hx hb dX13_setWake_10 (by decide) ?_
  refine lv_iadd hx hb dX13_setWake_11 ?_
  refine tk_add rfl (show (0 : Int32).toInt = 0 by decide) (by omega) (by omega) (fun v3 h_v3 => ?_)
  refine lv_iload_n hx hb dX13_setWake_12 rfl (lv_at hl 2 rfl) ?_
  refine mz_iast (x := p2) hx hb hK hD hM hS 3 (Nat.le_of_ble_eq_true rfl) rfl (nn := 5560) rfl rfl (by omega) (by omega) dX13_setWake_13 (fun H locs R hM hS hw9 hj9 => ?_)
  have hIR := hIR.put hw9 hj9 (mz_r3 (hIR.at 3) (I := v3.toInt) rfl (by omega) (by omega) (fun h9 => by first | (cases h9; done) | omega) (by unfold mE; omega))
  have hRR := mz_frp (K := [3]) (Fa := Ra) hj9 (fun _ _ => rfl) (by decide)
  have hrel := rK2.put (I := v3.toInt) (rK2.refl rfl) hw9 rfl (by omega) (by omega) (by omega)
  exact mz_vret hx hb hr hlocks ⟨hIF, hIG, hIR, (fun _ _ => rfl), hRR, (fun _ _ => rfl), hrel⟩ hM hS dX13_setWake_14
