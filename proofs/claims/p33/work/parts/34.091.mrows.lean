theorem dX13_giveCows_0 : decode cX13_giveCows 0 = .ok (.aload_n 0, 1) := by decide +kernel
theorem dX13_giveCows_1 : decode cX13_giveCows 1 = .ok (.getfield 13, 3) := by decide +kernel
theorem dX13_giveCows_4 : decode cX13_giveCows 4 = .ok (.bipush 11, 2) := by decide +kernel
theorem dX13_giveCows_6 : decode cX13_giveCows 6 = .ok (.iload_n 1, 1) := by decide +kernel
theorem dX13_giveCows_7 : decode cX13_giveCows 7 = .ok (.isub, 1) := by decide +kernel
theorem dX13_giveCows_8 : decode cX13_giveCows 8 = .ok (.iaload, 1) := by decide +kernel
theorem dX13_giveCows_9 : decode cX13_giveCows 9 = .ok (.istore_n 3, 1) := by decide +kernel
theorem dX13_giveCows_10 : decode cX13_giveCows 10 = .ok (.iload_n 2, 1) := by decide +kernel
theorem dX13_giveCows_11 : decode cX13_giveCows 11 = .ok (.iload_n 3, 1) := by decide +kernel
theorem dX13_giveCows_20 : decode cX13_giveCows 20 = .ok (.istore 4, 2) := by decide +kernel
theorem dX13_giveCows_22 : decode cX13_giveCows 22 = .ok (.aload_n 0, 1) := by decide +kernel
theorem dX13_giveCows_23 : decode cX13_giveCows 23 = .ok (.getfield 13, 3) := by decide +kernel
theorem dX13_giveCows_26 : decode cX13_giveCows 26 = .ok (.bipush 11, 2) := by decide +kernel
theorem dX13_giveCows_28 : decode cX13_giveCows 28 = .ok (.iload_n 1, 1) := by decide +kernel
theorem dX13_giveCows_29 : decode cX13_giveCows 29 = .ok (.isub, 1) := by decide +kernel
theorem dX13_giveCows_30 : decode cX13_giveCows 30 = .ok (.dup2, 1) := by decide +kernel
theorem dX13_giveCows_31 : decode cX13_giveCows 31 = .ok (.iaload, 1) := by decide +kernel
theorem dX13_giveCows_32 : decode cX13_giveCows 32 = .ok (.iload 4, 2) := by decide +kernel
theorem dX13_giveCows_34 : decode cX13_giveCows 34 = .ok (.isub, 1) := by decide +kernel
theorem dX13_giveCows_35 : decode cX13_giveCows 35 = .ok (.iastore, 1) := by decide +kernel
theorem dX13_giveCows_36 : decode cX13_giveCows 36 = .ok (.aload_n 0, 1) := by decide +kernel
theorem dX13_giveCows_37 : decode cX13_giveCows 37 = .ok (.getfield 13, 3) := by decide +kernel
theorem dX13_giveCows_40 : decode cX13_giveCows 40 = .ok (.bipush 10, 2) := by decide +kernel
theorem dX13_giveCows_42 : decode cX13_giveCows 42 = .ok (.iload_n 1, 1) := by decide +kernel
theorem dX13_giveCows_43 : decode cX13_giveCows 43 = .ok (.iadd, 1) := by decide +kernel
theorem dX13_giveCows_44 : decode cX13_giveCows 44 = .ok (.aload_n 0, 1) := by decide +kernel
theorem dX13_giveCows_45 : decode cX13_giveCows 45 = .ok (.getfield 13, 3) := by decide +kernel
theorem dX13_giveCows_48 : decode cX13_giveCows 48 = .ok (.bipush 10, 2) := by decide +kernel
theorem dX13_giveCows_50 : decode cX13_giveCows 50 = .ok (.iload_n 1, 1) := by decide +kernel
theorem dX13_giveCows_51 : decode cX13_giveCows 51 = .ok (.iadd, 1) := by decide +kernel
theorem dX13_giveCows_52 : decode cX13_giveCows 52 = .ok (.iaload, 1) := by decide +kernel
theorem dX13_giveCows_53 : decode cX13_giveCows 53 = .ok (.iload 4, 2) := by decide +kernel
theorem dX13_giveCows_55 : decode cX13_giveCows 55 = .ok (.iadd, 1) := by decide +kernel
theorem dX13_giveCows_56 : decode cX13_giveCows 56 = .ok (.i2l, 1) := by decide +kernel
theorem dX13_giveCows_57 : decode cX13_giveCows 57 = .ok (.iconst 0, 1) := by decide +kernel
theorem dX13_giveCows_58 : decode cX13_giveCows 58 = .ok (.sipush 9999, 3) := by decide +kernel
theorem dX13_giveCows_61 : decode cX13_giveCows 61 = .ok (.invokestatic 421, 3) := by decide +kernel
theorem dX13_giveCows_64 : decode cX13_giveCows 64 = .ok (.iastore, 1) := by decide +kernel
theorem dX13_giveCows_65 : decode cX13_giveCows 65 = .ok (.return_, 1) := by decide +kernel
theorem dX13_giveCows_12 : decode cX13_giveCows 12 = .ok (.if_icmp .ge 7, 3) := by decide +kernel
theorem dX13_giveCows_19 : decode cX13_giveCows 19 = .ok (.iload_n 3, 1) := by decide +kernel
theorem dX13_giveCows_15 : decode cX13_giveCows 15 = .ok (.iload_n 2, 1) := by decide +kernel
theorem dX13_giveCows_16 : decode cX13_giveCows 16 = .ok (.goto 4, 3) := by decide +kernel
set_option maxHeartbeats 4000000 in
set_option maxRecDepth 100000 in
theorem k_X13_giveCows (l : Launch) (D : va_G) (cy : Nat → ClassId) (ld ad : Nat → Nat) (am : Nat) (hD : mz_D ad am) (Fa : Nat → Int32) (Ga : Nat → Int64) (Ra : Nat → Nat → Int32) (Sa : Nat → Nat → Int64) (p1 : Int32) (p2 : Int32) (g12 : Int32) (g13 : Int32) (g14 : Int32) (g15 : Int32) (g16 : Int32) (hIF : mz_IF true Fa) (hIG : mz_IG Ga) (hIR : mz_IR [] true Ra) (hg_0 : Ra 3 12 = g12) (hg_1 : Ra 3 13 = g13) (hg_2 : Ra 3 14 = g14) (hg_3 : Ra 3 15 = g15) (hg_4 : Ra 3 16 = g16) (hp_0 : 0 ≤ p1.toInt) (hp_1 : p1.toInt ≤ 1) : Met l yX13_giveCows (wl yX13_giveCows cX13_giveCows 5 none) ({ frames := 4, cells := 0, slots := 0, locals := 210 }) (mz_p D cy ld ad am Fa Ga Ra Sa [.ref am, .int p1, .int p2]) (mz_w D cy ad am (fun F G R S => mz_IF true F ∧ mz_IG G ∧ mz_IR [] true R ∧ (∀ k : Nat, k ∉ ([] : List Nat) → F k = Fa k) ∧ (∀ k : Nat, k ∉ ([3] : List Nat) → R k = Ra k) ∧ (∀ k : Nat, k ∉ ([] : List Nat) → G k = Ga k) ∧ rK2 (Ra 3) (R 3) ∧ R 3 12 = g12 ∧ R 3 13 = g13 ∧ R 3 14 = g14 ∧ R 3 15 = g15 ∧ R 3 16 = g16)) 0 0 (mz_W ad am) := by
  refine mz_met (y := yX13_giveCows) (cc := cX13_giveCows) (maxL := 5) (ret := none) (av := [.ref am, .int p1, .int p2]) _ (by decide) (Nat.le_of_ble_eq_true rfl) ?_
  intro p e s m args below meth c hx hb hr hml hts htl hown hlocks hK H locs hM hS ls hl
  have hown : s.vm.findClass RX13 = some m.cls := hown
  have hl : lv_has ls 5 [(0, .ref am), (1, .int p1), (2, .int p2)] := hl
  have hr_p1 := tk_rng p1
  have hr_p2 := tk_rng p2
  have hq_g12 := tk_rng g12
  have hq_g13 := tk_rng g13
  have hq_g14 := tk_rng g14
  have hq_g15 := tk_rng g15
  have hq_g16 := tk_rng g16
  have hr_g12 : (-1) ≤ g12.toInt ∧ g12.toInt ≤ 7 := by have h9 := hIR.d; unfold dO at h9; rw [hg_0] at h9; omega
  have hr_g13 : (-1) ≤ g13.toInt ∧ g13.toInt ≤ 7 := by have h9 := hIR.d; unfold dO at h9; rw [hg_1] at h9; omega
  have hti_0 : g12.toInt ≠ -1 → g13.toInt ≠ -1 := by have h9 := hIR.d.2.2.2.2.2; rw [hg_0, hg_1] at h9; exact fun h8 => (h9 h8).1
  have hr_g14 : (-1) ≤ g14.toInt ∧ g14.toInt ≤ 99 := by have h9 := hIR.d; unfold dO at h9; rw [hg_2] at h9; omega
  have hr_g15 : (-1) ≤ g15.toInt ∧ g15.toInt ≤ 11 := by have h9 := hIR.d; unfold dO at h9; rw [hg_3] at h9; omega
  have hti_1 : g12.toInt ≠ -1 → g15.toInt ≠ -1 := by have h9 := hIR.d.2.2.2.2.2; rw [hg_0, hg_3] at h9; exact fun h8 => (h9 h8).2.1
  have hr_g16 : (-1) ≤ g16.toInt ∧ g16.toInt ≤ 7 := by have h9 := hIR.d; unfold dO at h9; rw [hg_4] at h9; omega
  have hti_2 : g12.toInt ≠ -1 → g16.toInt ≠ -1 := by have h9 := hIR.d.2.2.2.2.2; rw [hg_0, hg_4] at h9; exact fun h8 => (h9 h8).2.2
  refine lv_aload_n hx hb dX13_giveCows_0 rfl (lv_at hl 0 rfl) ?_
  refine mz_getR hx hb htl hown hK hM 3 (Nat.le_of_ble_eq_true rfl) (Nat.le_of_ble_eq_true rfl) (htl _ mw_188) (fun _ h9 => h9) dX13_giveCows_1 ?_
  refine lv_bipush (v := 11) hx hb dX13_giveCows_4 (by decide) ?_
  refine lv_iload_n hx hb dX13_giveCows_6 rfl (lv_at hl 1 rfl) ?_
  refine lv_isub hx hb dX13_giveCows_7 ?_
  refine tk_sub (show (11 : Int32).toInt = 11 by decide) rfl (by omega) (by omega) (fun v4 h_v4 => ?_)
  refine mz_iald hx hb hK hM 3 (Nat.le_of_ble_eq_true rfl) rfl (nn := 5560) rfl rfl (by omega) (by omega) dX13_giveCows_8 (fun v5 e_v5 => ?_)
  have hq_v5 := tk_rng v5
  refine lv_istore_n (lv' := [(3, .int v5), (0, .ref am), (1, .int p1), (2, .int p2)]) hx hb dX13_giveCows_9 rfl hl (by decide) rfl (fun ls hl => ?_)
  refine lv_iload_n hx hb dX13_giveCows_10 rfl (lv_at hl 3 rfl) ?_
  refine lv_iload_n hx hb dX13_giveCows_11 rfl (lv_at hl 0 rfl) ?_
  have hj12 : ∀ (v11 : Int32), (0 ≤ (-1) * v11.toInt + v5.toInt) → (0 ≤ p2.toInt + (-1) * v11.toInt) → ∀ ls : Array Slot, lv_has ls 5 [(0, .ref am), (1, .int p1)] → W p l e ({ frames := 4, cells := 0, slots := 0, locals := 210 }) s m args below meth c H locs 0 0 (MQ below (mz_w D cy ad am (fun F G R S => mz_IF true F ∧ mz_IG G ∧ mz_IR [] true R ∧ (∀ k : Nat, k ∉ ([] : List Nat) → F k = Fa k) ∧ (∀ k : Nat, k ∉ ([3] : List Nat) → R k = Ra k) ∧ (∀ k : Nat, k ∉ ([] : List Nat) → G k = Ga k) ∧ rK2 (Ra 3) (R 3) ∧ R 3 12 = g12 ∧ R 3 13 = g13 ∧ R 3 14 = g14 ∧ R 3 15 = g15 ∧ R 3 16 = g16)) args s 0 0 (mz_W ad am)) (F0 m 20 ls [.int v11]) := by
    intro v11 hq0_j12 hq1_j12 ls hl
    have hti_12 : g12.toInt ≠ -1 → g13.toInt ≠ -1 := by have h9 := hIR.d.2.2.2.2.2; rw [hg_0, hg_1] at h9; exact fun h8 => (h9 h8).1
    have hti_13 : g12.toInt ≠ -1 → g15.toInt ≠ -1 := by have h9 := hIR.d.2.2.2.2.2; rw [hg_0, hg_3] at h9; exact fun h8 => (h9 h8).2.1
    have hti_14 : g12.toInt ≠ -1 → g16.toInt ≠ -1 := by have h9 := hIR.d.2.2.2.2.2; rw [hg_0, hg_4] at h9; exact fun h8 => (h9 h8).2.2
    refine lv_istore (lv' := [(4, .int v11), (0, .ref am), (1, .int p1)]) hx hb dX13_giveCows_20 hl (by decide) rfl (fun ls hl => ?_)
    refine lv_aload_n hx hb dX13_giveCows_22 rfl (lv_at hl 1 rfl) ?_
    refine mz_getR hx hb htl hown hK hM 3 (Nat.le_of_ble_eq_true rfl) (Nat.le_of_ble_eq_true rfl) (htl _ mw_188) (fun _ h9 => h9) dX13_giveCows_23 ?_
    refine lv_bipush (v := 11) hx hb dX13_giveCows_26 (by decide) ?_
    refine lv_iload_n hx hb dX13_giveCows_28 rfl (lv_at hl 2 rfl) ?_
    refine lv_isub hx hb dX13_giveCows_29 ?_
    refine tk_sub (show (11 : Int32).toInt = 11 by decide) rfl (by omega) (by omega) (fun v16 h_v16 => ?_)
    refine lv_dup2_11 hx hb dX13_giveCows_30 rfl rfl ?_
    refine mz_iald hx hb hK hM 3 (Nat.le_of_ble_eq_true rfl) rfl (nn := 5560) rfl rfl (by omega) (by omega) dX13_giveCows_31 (fun v17 e_v17 => ?_)
    have hq_v17 := tk_rng v17
    refine lv_iload hx hb dX13_giveCows_32 (lv_at hl 0 rfl) ?_
    refine lv_isub hx hb dX13_giveCows_34 ?_
    obtain ⟨v18, hm_v18⟩ : ∃ z : Int32, v17 - v11 = z := ⟨_, rfl⟩
    refine fx_ti hm_v18 ?_
    refine mz_iast (x := v18) hx hb hK hD hM hS 3 (Nat.le_of_ble_eq_true rfl) rfl (nn := 5560) rfl rfl (by omega) (by omega) dX13_giveCows_35 (fun H locs R hM hS hw9 hj9 => ?_)
    have hIR := hIR.put hw9 hj9 (mz_r3 (hIR.at 3) (I := v16.toInt) rfl (by omega) (by omega) (fun h9 => by first | (cases h9; done) | omega) (by unfold mE; omega))
    have hRR := mz_frp (K := [3]) (Fa := Ra) hj9 (fun _ _ => rfl) (by decide)
    have hrel := rK2.put (I := v16.toInt) (rK2.refl rfl) hw9 rfl (by omega) (by omega) (by omega)
    have hg_0 : R 3 12 = _ := (congrFun hw9 12).trans ((pk_un (fun h9 => by have h8 := tk_nat (i := v16) rfl (by omega); omega)).trans hg_0)
    have hg_1 : R 3 13 = _ := (congrFun hw9 13).trans ((pk_un (fun h9 => by have h8 := tk_nat (i := v16) rfl (by omega); omega)).trans hg_1)
    have hg_2 : R 3 14 = _ := (congrFun hw9 14).trans ((pk_un (fun h9 => by have h8 := tk_nat (i := v16) rfl (by omega); omega)).trans hg_2)
    have hg_3 : R 3 15 = _ := (congrFun hw9 15).trans ((pk_un (fun h9 => by have h8 := tk_nat (i := v16) rfl (by omega); omega)).trans hg_3)
    have hg_4 : R 3 16 = _ := (congrFun hw9 16).trans ((pk_un (fun h9 => by have h8 := tk_nat (i := v16) rfl (by omega); omega)).trans hg_4)
    refine lv_aload_n hx hb dX13_giveCows_36 rfl (lv_at hl 1 rfl) ?_
    refine mz_getR hx hb htl hown hK hM 3 (Nat.le_of_ble_eq_true rfl) (Nat.le_of_ble_eq_true rfl) (htl _ mw_188) (fun _ h9 => h9) dX13_giveCows_37 ?_
    refine lv_bipush (v := 10) hx hb dX13_giveCows_40 (by decide) ?_
    refine lv_iload_n hx hb dX13_giveCows_42 rfl (lv_at hl 2 rfl) ?_
    refine lv_iadd hx hb dX13_giveCows_43 ?_
    refine tk_add (show (10 : Int32).toInt = 10 by decide) rfl (by omega) (by omega) (fun v20 h_v20 => ?_)
    refine lv_aload_n hx hb dX13_giveCows_44 rfl (lv_at hl 1 rfl) ?_
    refine mz_getR hx hb htl hown hK hM 3 (Nat.le_of_ble_eq_true rfl) (Nat.le_of_ble_eq_true rfl) (htl _ mw_188) (fun _ h9 => h9) dX13_giveCows_45 ?_
    refine lv_bipush (v := 10) hx hb dX13_giveCows_48 (by decide) ?_
    refine lv_iload_n hx hb dX13_giveCows_50 rfl (lv_at hl 2 rfl) ?_
    refine lv_iadd hx hb dX13_giveCows_51 ?_
    refine tk_add (show (10 : Int32).toInt = 10 by decide) rfl (by omega) (by omega) (fun v21 h_v21 => ?_)
    refine mz_iald hx hb hK hM 3 (Nat.le_of_ble_eq_true rfl) rfl (nn := 5560) rfl rfl (by omega) (by omega) dX13_giveCows_52 (fun v22 e_v22 => ?_)
    have hq_v22 := tk_rng v22
    refine lv_iload hx hb dX13_giveCows_53 (lv_at hl 0 rfl) ?_
    refine lv_iadd hx hb dX13_giveCows_55 ?_
    obtain ⟨v23, hm_v23⟩ : ∃ z : Int32, v22 + v11 = z := ⟨_, rfl⟩
    refine fx_ti hm_v23 ?_
    obtain ⟨w24, e_w24, h_w24⟩ : ∃ z : Int64, v23.toInt64 = z ∧ z.toInt = v23.toInt := ⟨_, rfl, fl_w _⟩
    refine lv_i2l (v := w24) hx hb dX13_giveCows_56 e_w24 ?_
    refine lv_iconst (v := 0) hx hb dX13_giveCows_57 (by decide) ?_
    refine lv_sipush (v := 9999) hx hb dX13_giveCows_58 (by decide) ?_
    have hk_0 : (0 : Int32).toInt = 0 := by decide
    have hk_9999 : (9999 : Int32).toInt = 9999 := by decide
    refine mz_Sj (As := [.long w24, .int 0, .int 9999]) (rest := [.int v20, .ref (ad 3)]) ⟨hx, hb, hml, hown, hts⟩ hK hM hS (k_X13_within l D cy ld ad am hD _ _ _ _ w24 0 9999 (by omega)) ⟨callB_of 3 hts (wl_in mw_1125) rfl rfl rfl (htl _ mw_5) (htl _ mw_1123) hd_yX13_within ⟨(Nat.le_of_ble_eq_true rfl), (Nat.le_of_ble_eq_true rfl)⟩, htl _ mw_1124⟩ rfl hl.1 rfl (Nat.le_of_ble_eq_true rfl) dX13_giveCows_61 ⟨(Nat.le_of_ble_eq_true rfl), (Nat.le_of_ble_eq_true rfl)⟩ (fun v25 H locs hpo hM hS => ?_)
    obtain ⟨hpo26, hpo27⟩ := hpo
    have hq_v25 := tk_rng v25
    refine mz_iast (x := v25) hx hb hK hD hM hS 3 (Nat.le_of_ble_eq_true rfl) rfl (nn := 5560) rfl rfl (by omega) (by omega) dX13_giveCows_64 (fun H locs R hM hS hw9 hj9 => ?_)
    have hIR := hIR.put hw9 hj9 (mz_r3 (hIR.at 3) (I := v20.toInt) rfl (by omega) (by omega) (fun h9 => by first | (cases h9; done) | omega) (by unfold mE; omega))
    have hRR := mz_frp (K := [3]) (Fa := Ra) hj9 hRR (by decide)
    have hrel := rK2.put (I := v20.toInt) hrel hw9 rfl (by omega) (by omega) (by omega)
    have hg_0 : R 3 12 = _ := (congrFun hw9 12).trans ((pk_un (fun h9 => by have h8 := tk_nat (i := v20) rfl (by omega); omega)).trans hg_0)
    have hg_1 : R 3 13 = _ := (congrFun hw9 13).trans ((pk_un (fun h9 => by have h8 := tk_nat (i := v20) rfl (by omega); omega)).trans hg_1)
    have hg_2 : R 3 14 = _ := (congrFun hw9 14).trans ((pk_un (fun h9 => by have h8 := tk_nat (i := v20) rfl (by omega); omega)).trans hg_2)
    have hg_3 : R 3 15 = _ := (congrFun hw9 15).trans ((pk_un (fun h9 => by have h8 := tk_nat (i := v20) rfl (by omega); omega)).trans hg_3)
    have hg_4 : R 3 16 = _ := (congrFun hw9 16).trans ((pk_un (fun h9 => by have h8 := tk_nat (i := v20) rfl (by omega); omega)).trans hg_4)
    exact mz_vret hx hb hr hlocks ⟨hIF, hIG, hIR, (fun _ _ => rfl), hRR, (fun _ _ => rfl), hrel, hg_0, hg_1, hg_2, hg_3, hg_4⟩ hM hS dX13_giveCows_65
  refine lv_icmp_ge (tgt := 19) hx hb dX13_giveCows_12 (by decide) (fun c9 => ?_) (fun c9 => ?_)
  · have hc6 : v5.toInt ≤ p2.toInt := (fi_le rfl rfl).mp c9
    refine lv_iload_n hx hb dX13_giveCows_19 rfl (lv_at hl 0 rfl) ?_
    exact hj12 v5 (by omega) (by omega) _ (lv_sub hl [1, 2] rfl)
  · have hc6 : ¬ (v5.toInt ≤ p2.toInt) := fun h9 => c9 ((fi_le rfl rfl).mpr h9)
    refine lv_iload_n hx hb dX13_giveCows_15 rfl (lv_at hl 3 rfl) ?_
    refine lv_goto (tgt := 20) hx hb dX13_giveCows_16 (by decide) ?_
    exact hj12 p2 (by omega) (by omega) _ (lv_sub hl [1, 2] rfl)
