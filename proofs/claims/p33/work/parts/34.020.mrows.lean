theorem dX13_isVerse_0 : decode cX13_isVerse 0 = .ok (.iload_n 1, 1) := by decide +kernel
theorem dX13_isVerse_1 : decode cX13_isVerse 1 = .ok (.i2l, 1) := by decide +kernel
theorem dX13_isVerse_2 : decode cX13_isVerse 2 = .ok (.lconst 0, 1) := by decide +kernel
theorem dX13_isVerse_3 : decode cX13_isVerse 3 = .ok (.aload_n 0, 1) := by decide +kernel
theorem dX13_isVerse_4 : decode cX13_isVerse 4 = .ok (.getfield 13, 3) := by decide +kernel
theorem dX13_isVerse_7 : decode cX13_isVerse 7 = .ok (.iconst 1, 1) := by decide +kernel
theorem dX13_isVerse_8 : decode cX13_isVerse 8 = .ok (.iaload, 1) := by decide +kernel
theorem dX13_isVerse_9 : decode cX13_isVerse 9 = .ok (.i2l, 1) := by decide +kernel
theorem dX13_isVerse_10 : decode cX13_isVerse 10 = .ok (.lconst 1, 1) := by decide +kernel
theorem dX13_isVerse_11 : decode cX13_isVerse 11 = .ok (.lsub, 1) := by decide +kernel
theorem dX13_isVerse_12 : decode cX13_isVerse 12 = .ok (.invokestatic 190, 3) := by decide +kernel
theorem dX13_isVerse_15 : decode cX13_isVerse 15 = .ok (.ireturn, 1) := by decide +kernel
set_option maxHeartbeats 4000000 in
set_option maxRecDepth 100000 in
theorem k_X13_isVerse (l : Launch) (D : va_G) (cy : Nat → ClassId) (ld ad : Nat → Nat) (am : Nat) (hD : mz_D ad am) (Fa : Nat → Int32) (Ga : Nat → Int64) (Ra : Nat → Nat → Int32) (Sa : Nat → Nat → Int64) (p1 : Int32) (hIF : mz_IF false Fa) (hIG : mz_IG Ga) (hIR : mz_IR [] true Ra) : Met l yX13_isVerse (wl yX13_isVerse cX13_isVerse 2 (some .boolean)) ({ frames := 4, cells := 0, slots := 0, locals := 210 }) (mz_p D cy ld ad am Fa Ga Ra Sa [.ref am, .int p1]) (mz_j D cy ad am Fa Ga Ra Sa (fun r => (1 ≤ r.toInt → 0 ≤ p1.toInt ∧ p1.toInt ≤ 9) ∧ 0 ≤ r.toInt ∧ r.toInt ≤ 1 ∧ 0 ≤ r.toInt ∧ r.toInt ≤ 1)) 0 0 (mz_W ad am) := by
  refine mz_met (y := yX13_isVerse) (cc := cX13_isVerse) (maxL := 2) (ret := (some .boolean)) (av := [.ref am, .int p1]) _ (by decide) (Nat.le_of_ble_eq_true rfl) ?_
  intro p e s m args below meth c hx hb hr hml hts htl hown hlocks hK H locs hM hS ls hl
  have hown : s.vm.findClass RX13 = some m.cls := hown
  have hl : lv_has ls 2 [(0, .ref am), (1, .int p1)] := hl
  have hr_p1 := tk_rng p1
  refine lv_iload_n hx hb dX13_isVerse_0 rfl (lv_at hl 1 rfl) ?_
  obtain ⟨w1, e_w1, h_w1⟩ : ∃ z : Int64, p1.toInt64 = z ∧ z.toInt = p1.toInt := ⟨_, rfl, fl_w _⟩
  refine lv_i2l (v := w1) hx hb dX13_isVerse_1 e_w1 ?_
  refine lv_lconst (v := 0) hx hb dX13_isVerse_2 (by decide) ?_
  refine lv_aload_n hx hb dX13_isVerse_3 rfl (lv_at hl 0 rfl) ?_
  refine mz_getR hx hb htl hown hK hM 3 (Nat.le_of_ble_eq_true rfl) (Nat.le_of_ble_eq_true rfl) (htl _ mw_188) (fun _ h9 => h9) dX13_isVerse_4 ?_
  refine lv_iconst (v := 1) hx hb dX13_isVerse_7 (by decide) ?_
  refine mz_iald hx hb hK hM 3 (Nat.le_of_ble_eq_true rfl) rfl (nn := 5560) rfl (I := 1) (by decide) (by decide) (by decide) dX13_isVerse_8 (fun v3 hf2 => ?_)
  have hf2 : Ra 3 1 = v3 := hf2
  have hq_v3 := tk_rng v3
  have hr_v3 : 0 ≤ v3.toInt ∧ v3.toInt ≤ 10 := by have h9 := mz_r3c 1 (hIR.at 3) hf2 (by decide); unfold mE at h9; omega
  obtain ⟨w4, e_w4, h_w4⟩ : ∃ z : Int64, v3.toInt64 = z ∧ z.toInt = v3.toInt := ⟨_, rfl, fl_w _⟩
  refine lv_i2l (v := w4) hx hb dX13_isVerse_9 e_w4 ?_
  refine lv_lconst (v := 1) hx hb dX13_isVerse_10 (by decide) ?_
  refine lv_lsub hx hb dX13_isVerse_11 ?_
  refine tk_lsub rfl (show (1 : Int64).toInt = 1 by decide) (by omega) (by omega) (fun w5 h_w5 => ?_)
  have hk_0 : (0 : Int64).toInt = 0 := by decide
  refine mz_Sj (As := [.long w1, .long 0, .long w5]) (rest := []) ⟨hx, hb, hml, hown, hts⟩ hK hM hS (k_X13_in l D cy ld ad am hD _ _ _ _ w1 0 w5) ⟨callB_of 3 hts (wl_in mw_292) rfl rfl rfl (htl _ mw_5) (htl _ mw_290) hd_yX13_in ⟨(Nat.le_of_ble_eq_true rfl), (Nat.le_of_ble_eq_true rfl)⟩, htl _ mw_291⟩ rfl hl.1 rfl (Nat.le_of_ble_eq_true rfl) dX13_isVerse_12 ⟨(Nat.le_of_ble_eq_true rfl), (Nat.le_of_ble_eq_true rfl)⟩ (fun v6 H locs hpo hM hS => ?_)
  obtain ⟨hpo10, hpo11, hpo12, hpo13, hpo14, hpo15⟩ := hpo
  have hq_v6 := tk_rng v6
  exact mz_jret (v := v6) hx hb hr (tk_nz (by omega) (by omega)) hlocks ⟨(by omega), (by omega), (by omega), (by omega), (by omega)⟩ hM hS dX13_isVerse_15
