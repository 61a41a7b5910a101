theorem dX13_setWake_0 : decode cX13_setWake 0 = .ok (.aload_n 0, 1) := by decide +kernel
theorem dX13_setWake_1 : decode cX13_setWake 1 = .ok (.getfield 13, 3) := by decide +kernel
theorem dX13_setWake_4 : decode cX13_setWake 4 = .ok (.bipush 18, 2) := by decide +kernel
theorem dX13_setWake_6 : decode cX13_setWake 6 = .ok (.iconst 5, 1) := by decide +kernel
theorem dX13_setWake_7 : decode cX13_setWake 7 = .ok (.iload_n 1, 1) := by decide +kernel
theorem dX13_setWake_8 : decode cX13_setWake 8 = .ok (.imul, 1) := by decide +kernel
theorem dX13_setWake_9 : decode cX13_setWake 9 = .ok (.iadd, 1) := by decide +kernel
theorem dX13_setWake_10 : decode cX13_setWake 10 = .ok (.iconst 0, 1) := by decide +kernel
theorem dX13_setWake_11 : decode cX13_setWake 11 = .ok (.iadd, 1) := by decide +kernel
theorem dX13_setWake_12 : decode cX13_setWake 12 = .ok (.iload_n 2, 1) := by decide +kernel
theorem dX13_setWake_13 : decode cX13_setWake 13 = .ok (.iastore, 1) := by decide +kernel
theorem dX13_setWake_14 : decode cX13_setWake 14 = .ok (.return_, 1) := by decide +kernel
set_option maxHeartbeats 4000000 in
set_option maxRecDepth 100000 in
theorem k_X13_setWake (l : Launch) (D : va_G) (cy : Nat → ClassId) (ld ad : Nat → Nat) (am : Nat) (hD : mz_D ad am) (Fa : Nat → Int32) (Ga : Nat → Int64) (Ra : Nat → Nat → Int32) (Sa : Nat → Nat → Int64) (p1 : Int32) (p2 : Int32) (g12 : Int32) (g13 : Int32) (g14 : Int32) (g15 : Int32) (g16 : Int32) (hIF : mz_IF true Fa) (hIG : mz_IG Ga) (hIR : mz_IR [] true Ra) (hg_0 : Ra 3 12 = g12) (hg_1 : Ra 3 13 = g13) (hg_2 : Ra 3 14 = g14) (hg_3 : Ra 3 15 = g15) (hg_4 : Ra 3 16 = g16) (hp_0 : 0 ≤ p1.toInt) (hp_1 : p1.toInt ≤ 7) : Met l yX13_setWake (wl yX13_setWake cX13_setWake 3 none) ({ frames := 3, cells := 0, slots := 0, locals := 140 }) (mz_p D cy ld ad am Fa Ga Ra Sa [.ref am, .int p1, .int p2]) (mz_w D cy ad am (fun F G R S => mz_IF true F ∧ mz_IG G ∧ mz_IR [] true R ∧ (∀ k : Nat, k ∉ ([] : List Nat) → F k = Fa k) ∧ (∀ k : Nat, k ∉ ([3] : List Nat) → R k = Ra k) ∧ (∀ k : Nat, k ∉ ([] : List Nat) → G k = Ga k) ∧ rK2 (Ra 3) (R 3) ∧ R 3 12 = g12 ∧ R 3 13 = g13 ∧ R 3 14 = g14 ∧ R 3 15 = g15 ∧ R 3 16 = g16)) 0 0 (mz_W ad am) := by
  refine mz_met (y := yX13_setWake) (cc := cX13_setWake) (maxL := 3) (ret := none) (av := [.ref am, .int p1, .int p2]) _ (by decide) (Nat.le_of_ble_eq_true rfl) ?_
  intro p e s m args below meth c hx hb hr hml hts htl hown hlocks hK H locs hM hS ls hl
  have hown : s.vm.findClass RX13 = some m.cls := hown
  have hl : lv_has ls 3 [(0, .ref am), (1, .int p1), (2, .int p2)] := hl
  have hr_p1 := tk_rng p1
  have hr_p2 := tk_rng p2
  have hq_g12 := tk_rng g12
  have hq_g13 := tk_rng g13
  have hq_g14 := tk_rng g14
  have hq_g15 := tk_rng g15
  have hq_g16 := tk_rng g16
  have hr_g12 : (-1) ≤ g12.toInt ∧ g12.toInt ≤ 7 := by have h9 := hIR.d; unfold dO at h9; rw [hg_0] at h9; omega
  have hr_g13 : (-1) ≤ g13.toInt ∧ g13.toInt ≤ 7 := by have h9 := hIR.d; unfold dO at h9; rw [hg_1] at h9; omega
  have hti_0 : g12.toInt ≠ -1 → g13.toInt ≠ -1 := by have h9 := hIR.d.2.2.2.2.2; rw [hg_0, hg_1] at h9; exact fun h8 => (h9 h8).1
  have hr_g14 : (-1) ≤ g14.toInt ∧ g14.toInt ≤ 99 := by have h9 := hIR.d; unfold dO at h9; rw [hg_2] at h9; omega
  have hr_g15 : (-1) ≤ g15.toInt ∧ g15.toInt ≤ 11 := by have h9 := hIR.d; unfold dO at h9; rw [hg_3] at h9; omega
  have hti_1 : g12.toInt ≠ -1 → g15.toInt ≠ -1 := by have h9 := hIR.d.2.2.2.2.2; rw [hg_0, hg_3] at h9; exact fun h8 => (h9 h8).2.1
  have hr_g16 : (-1) ≤ g16.toInt ∧ g16.toInt ≤ 7 := by have h9 := hIR.d; unfold dO at h9; rw [hg_4] at h9; omega
  have hti_2 : g12.toInt ≠ -1 → g16.toInt ≠ -1 := by have h9 := hIR.d.2.2.2.2.2; rw [hg_0, hg_4] at h9; exact fun h8 => (h9 h8).2.2
  refine lv_aload_n hx hb dX13_setWake_0 rfl (lv_at hl 0 rfl) ?_
  refine mz_getR hx hb htl hown hK hM 3 (Nat.le_of_ble_eq_true rfl) (Nat.le_of_ble_eq_true rfl) (htl _ mw_188) (fun _ h9 => h9) dX13_setWake_1 ?_
  refine lv_bipush (v := 18) hx hb dX13_setWake_4 (by decide) ?_
  refine lv_iconst (v := 5) hx hb dX13_setWake_6 (by decide) ?_
  refine lv_iload_n hx hb dX13_setWake_7 rfl (lv_at hl 1 rfl) ?_
  refine lv_imul hx hb dX13_setWake_8 ?_
  refine tk_mul (show (5 : Int32).toInt = 5 by decide) rfl (by omega) (by omega) (fun v4 h_v4 => ?_)
  refine lv_iadd hx hb dX13_setWake_9 ?_
  refine tk_add (show (18 : Int32).toInt = 18 by decide) rfl (by omega) (by omega) (fun v5 h_v5 => ?_)
  refine lv_iconst (v := 0) hx hb dX13_setWake_10 (by decide) ?_
  refine lv_iadd hx hb dX13_setWake_11 ?_
  refine tk_add rfl (show (0 : Int32).toInt = 0 by decide) (by omega) (by omega) (fun v6 h_v6 => ?_)
  refine lv_iload_n hx hb dX13_setWake_12 rfl (lv_at hl 2 rfl) ?_
  refine mz_iast (x := p2) hx hb hK hD hM hS 3 (Nat.le_of_ble_eq_true rfl) rfl (nn := 5560) rfl rfl (by omega) (by omega) dX13_setWake_13 (fun H locs R hM hS hw9 hj9 => ?_)
  have hIR := hIR.put hw9 hj9 (mz_r3 (hIR.at 3) (I := v6.toInt) rfl (by omega) (by omega) (fun h9 => by first | (cases h9; done) | omega) (by unfold mE; omega))
  have hRR := mz_frp (K := [3]) (Fa := Ra) hj9 (fun _ _ => rfl) (by decide)
  have hrel := rK2.put (I := v6.toInt) (rK2.refl rfl) hw9 rfl (by omega) (by omega) (by omega)
  have hg_0 : R 3 12 = _ := (congrFun hw9 12).trans ((pk_un (fun h9 => by have h8 := tk_nat (i := v6) rfl (by omega); omega)).trans hg_0)
  have hg_1 : R 3 13 = _ := (congrFun hw9 13).trans ((pk_un (fun h9 => by have h8 := tk_nat (i := v6) rfl (by omega); omega)).trans hg_1)
  have hg_2 : R 3 14 = _ := (congrFun hw9 14).trans ((pk_un (fun h9 => by have h8 := tk_nat (i := v6) rfl (by omega); omega)).trans hg_2)
  have hg_3 : R 3 15 = _ := (congrFun hw9 15).trans ((pk_un (fun h9 => by have h8 := tk_nat (i := v6) rfl (by omega); omega)).trans hg_3)
  have hg_4 : R 3 16 = _ := (congrFun hw9 16).trans ((pk_un (fun h9 => by have h8 := tk_nat (i := v6) rfl (by omega); omega)).trans hg_4)
  exact mz_vret hx hb hr hlocks ⟨hIF, hIG, hIR, (fun _ _ => rfl), hRR, (fun _ _ => rfl), hrel, hg_0, hg_1, hg_2, hg_3, hg_4⟩ hM hS dX13_setWake_14
