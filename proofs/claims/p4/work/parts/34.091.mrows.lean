section
theorem dX13_giveCows_0 : decode cX13_giveCows 0 = .ok (.aload_n 0, 1) := by decide +kernel
theorem dX13_giveCows_1 : decode cX13_giveCows 1 = .ok (.getfield 13, 3) := by decide +kernel
theorem dX13_giveCows_4 : decode cX13_giveCows 4 = .ok (.bipush 11, 2) := by decide +kernel
theorem dX13_giveCows_6 : decode cX13_giveCows 6 = .ok (.iload_n 1, 1) := by decide +kernel
theorem dX13_giveCows_7 : decode cX13_giveCows 7 = .ok (.isub, 1) := by decide +kernel
theorem dX13_giveCows_8 : decode cX13_giveCows 8 = .ok (.iaload, 1) := by decide +kernel
theorem dX13_giveCows_9 : decode cX13_giveCows 9 = .ok (.istore_n 3, 1) := by decide +kernel
theorem dX13_giveCows_10 : decode cX13_giveCows 10 = .ok (.iload_n 2, 1) := by decide +kernel
theorem dX13_giveCows_11 : decode cX13_giveCows 11 = .ok (.iload_n 3, 1) := by decide +kernel
theorem dX13_giveCows_20 : decode cX13_giveCows 20 = .ok (.istore 4, 2) := by decide +kernel
theorem dX13_giveCows_22 : decode cX13_giveCows 22 = .ok (.aload_n 0, 1) := by decide +kernel
theorem dX13_giveCows_23 : decode cX13_giveCows 23 = .ok (.getfield 13, 3) := by decide +kernel
theorem dX13_giveCows_26 : decode cX13_giveCows 26 = .ok (.bipush 11, 2) := by decide +kernel
theorem dX13_giveCows_28 : decode cX13_giveCows 28 = .ok (.iload_n 1, 1) := by decide +kernel
theorem dX13_giveCows_29 : decode cX13_giveCows 29 = .ok (.isub, 1) := by decide +kernel
theorem dX13_giveCows_30 : decode cX13_giveCows 30 = .ok (.dup2, 1) := by decide +kernel
theorem dX13_giveCows_31 : decode cX13_giveCows 31 = .ok (.iaload, 1) := by decide +kernel
theorem dX13_giveCows_32 : decode cX13_giveCows 32 = .ok (.iload 4, 2) := by decide +kernel
theorem dX13_giveCows_34 : decode cX13_giveCows 34 = .ok (.isub, 1) := by decide +kernel
theorem dX13_giveCows_35 : decode cX13_giveCows 35 = .ok (.iastore, 1) := by decide +kernel
theorem dX13_giveCows_36 : decode cX13_giveCows 36 = .ok (.aload_n 0, 1) := by decide +kernel
theorem dX13_giveCows_37 : decode cX13_giveCows 37 = .ok (.getfield 13, 3) := by decide +kernel
theorem dX13_giveCows_40 : decode cX13_giveCows 40 = .ok (.bipush 10, 2) := by decide +kernel
theorem dX13_giveCows_42 : decode cX13_giveCows 42 = .ok (.iload_n 1, 1) := by decide +kernel
theorem dX13_giveCows_43 : decode cX13_giveCows 43 = .ok (.iadd, 1) := by decide +kernel
theorem dX13_giveCows_44 : decode cX13_giveCows 44 = .ok (.aload_n 0, 1) := by decide +kernel
theorem dX13_giveCows_45 : decode cX13_giveCows 45 = .ok (.getfield 13, 3) := by decide +kernel
theorem dX13_giveCows_48 : decode cX13_giveCows 48 = .ok (.bipush 10, 2) := by decide +kernel
theorem dX13_giveCows_50 : decode cX13_giveCows 50 = .ok (.iload_n 1, 1) := by decide +kernel
theorem dX13_giveCows_51 : decode cX13_giveCows 51 = .ok (.iadd, 1) := by decide +kernel
theorem dX13_giveCows_52 : decode cX13_giveCows 52 = .ok (.iaload, 1) := by decide +kernel
theorem dX13_giveCows_53 : decode cX13_giveCows 53 = .ok (.iload 4, 2) := by decide +kernel
theorem dX13_giveCows_55 : decode cX13_giveCows 55 = .ok (.iadd, 1) := by decide +kernel
theorem dX13_giveCows_56 : decode cX13_giveCows 56 = .ok (.i2l, 1) := by decide +kernel
theorem dX13_giveCows_57 : decode cX13_giveCows 57 = .ok (.iconst 0, 1) := by decide +kernel
theorem dX13_giveCows_58 : decode cX13_giveCows 58 = .ok (.sipush 9999, 3) := by decide +kernel
theorem dX13_giveCows_61 : decode cX13_giveCows 61 = .ok (.invokestatic 421, 3) := by decide +kernel
theorem dX13_giveCows_64 : decode cX13_giveCows 64 = .ok (.iastore, 1) := by decide +kernel
theorem dX13_giveCows_65 : decode cX13_giveCows 65 = .ok (.return_, 1) := by decide +kernel
theorem dX13_giveCows_12 : decode cX13_giveCows 12 = .ok (.if_icmp .ge 7, 3) := by decide +kernel
theorem dX13_giveCows_19 : decode cX13_giveCows 19 = .ok (.iload_n 3, 1) := by decide +kernel
theorem dX13_giveCows_15 : decode cX13_giveCows 15 = .ok (.iload_n 2, 1) := by decide +kernel
theorem dX13_giveCows_16 : decode cX13_giveCows 16 = .ok (.goto 4, 3) := by decide +kernel
set_option maxHeartbeats 4000000 in
set_option maxRecDepth 100000 in
theorem k_X13_giveCows (l : Launch) (D : va_G) (cy : Nat → ClassId) (ld ad : Nat → Nat) (am : Nat) (hD : mz_D ad am) (Fa : Nat → Int32) (Ga : Nat → Int64) (Ra : Nat → Nat → Int32) (Sa : Nat → Nat → Int64) (p1 : Int32) (p2 : Int32) (g12 : Int32) (g13 : Int32) (g14 : Int32) (g15 : Int32) (g16 : Int32) (hIF : mz_IF true Fa) (hIG : mz_IG Ga) (hIR : mz_IR [] true Ra) (hg_0 : Ra 3 12 = g12) (hg_1 : Ra 3 13 = g13) (hg_2 : Ra 3 14 = g14) (hg_3 : Ra 3 15 = g15) (hg_4 : Ra 3 16 = g16) (hp_0 : 0 ≤ p1.toInt) (hp_1 : p1.toInt ≤ 1) : Met l yX13_giveCows (wl yX13_giveCows cX13_giveCows 5 none) ({ frames := 4, cells := 0, slots := 0, locals := 210 }) (mz_p D cy ld ad am Fa Ga Ra Sa [.ref am, .int p1, .int p2]) (mz_w D cy ad am (fun F G R S => mz_IF true F ∧ mz_IG G ∧ mz_IR [] true R ∧ (∀ k : Nat, k ∉ ([] : List Nat) → F k = Fa k) ∧ (∀ k : Nat, k ∉ ([3] : List Nat) → R k = Ra k) ∧ (∀ k : Nat, k ∉ ([] : List Nat) → G k = Ga k) ∧ rK2 (Ra 3) (R 3) ∧ R 3 12 = g12 ∧ R 3 13 = g13 ∧ R 3 14 = g14 ∧ R 3 15 = g15 ∧ R 3 16 = g16)) 0 0 (mz_W ad am) := by
  refine mz_met (y := yX13_giveCows) (cc := cX13_giveCows) (maxL := 5) (ret := none) (av := [.ref am, .int p1, .int p2]) _ (by decide) (Nat.le_of_ble_eq_true rfl) ?_
  intro p e s m args below meth c hx hb hr hml hts htl hown hlocks hK H locs hM hS ls hl
  have hown : s.vm.findClass RX13 = some m.cls := hown
  have hl : lv_has ls 5 [(0, .ref am), (1, .int p1), (2, .int p2)] := hl
  have hr_p1 := tk_rng p1
  have hr_p2 := tk_rng p2
  have hq_g12 := tk_rng g12
  have hq_g13 := tk_rng g13
  have hq_g14 := tk_rng g14
  have hq_g15 := tk_rng g15
  have hq_g16 := tk_rng g16
  have hr_g12 : (-1) ≤ g12.toInt ∧ g12.toInt ≤ 7 := by have h9 := hIR.d; unfold dO at h9; rw [hg_0] at h9; omega
  have hr_g13 : (-1) ≤ g13.toInt ∧ g13.toInt ≤ 7 := by have h9 := hIR.d; unfold dO at h9; rw [hg_1] at h9; omega
  have hti_0 : g12.toInt ≠ -1 → g13.toInt ≠ -1 := by have h9 := hIR.d.2.2.2.2.2; rw [hg_0, hg_1] at h9; exact fun h8 => (h9 h8).1
  have hr_g14 : (-1) ≤ g14.toInt ∧ g14.toInt ≤ 99 := by have h9 := hIR.d; unfold dO at h9; rw [hg_2] at h9; omega
  have hr_g15 : (-1) ≤ g15.toInt ∧ g15.toInt ≤ 11 := by have h9 := hIR.d; unfold dO at h9; rw [hg_3] at h9; omega
  have hti_1 : g12.toInt ≠ -1 → g15.toInt ≠ -1 := by have h9 := hIR.d.2.2.2.2.2; rw [hg_0, hg_3] at h9; exact fun h8 => (h9 h8).2.1
  have hr_g16 : (-1) ≤ g16.toInt ∧ g16.toInt ≤ 7 := by have h9 := hIR.d; unfold dO at h9; rw [hg_4] at h9; omega
  have hti_2 : g12.toInt ≠ -1 → g16.toInt ≠ -1 := by have h9 := hIR.d.2.2.2.2.2; rw [hg_0, hg_4] at h9; exact fun h8 => (h9 h8).2.2
  refine lv_aload_n hx hb dX13_giveCows_0 rfl (lv_at hl 0 rfl) ?_
  refine mz_getR hx hb htl hown hK hM 3 (Nat.le_of_ble_eq_true rfl) (Nat.le_of_ble_eq_true rfl) (htl _ mw_188) (fun _ h9 => h9) dX13_giveCows_1 ?_
  refine lv_bipush (v := 11) hx hb dX13_giveCows_4 (by decide) ?_
  refine lv_iload_n hx hb dX13_giveCows_6 rfl (lv_at hl 1 rfl) ?_
  refine lv_isub hx hb dX13_giveCows_7 ?_
  refine tk_sub (show (11 : Int32).toInt = 11 by decide) rfl (by omega) (by omega) (fun v4 h_v4 => ?_)
  refine mz_iald hx hb hK hM 3 (Nat.le_of_ble_eq_true rfl) rfl (nn := 5560) rfl rfl (by omega) (by omega) dX13_giveCows_8 (fun v5 e_v5 => ?_)
  have hq_v5 := tk_rng v5
  refine lv_istore_n (lv' := [(3, .int v5), (0, .ref am), (1, .int p1), (2, .int p2)]) hx hb dX13_giveCows_9 rfl hl (by decide) rfl (fun ls hl => ?_)
  refine lv_iload_n hx hb dX13_giveCows_10 rfl (lv_at hl 3 rfl) ?_
  refine lv_iload_n hx hb dX13_giveCows_11 rfl (lv_at hl 0 rfl) ?_
  have hj12 : ∀ (v11 : Int32), (0 ≤ (-1) * v11.toInt + v5.toInt) → (0 ≤ p2.toInt + (-1) * v11.toInt) → ∀ ls : Array Slot, lv_has ls 5 [(0, .ref am), (1, .int p1)] → W p l e ({ frames := 4, cells := 0, slots := 0, locals := 210 }) s m args below meth c H locs 0 0 (MQ below (mz_w D cy ad am (fun F G R S => mz_IF true F ∧ mz_IG G ∧ mz_IR [] true R ∧ (∀ k : Nat, k ∉ ([] : List Nat) → F k = Fa k) ∧ (∀ k : Nat, k ∉ ([3] : List Nat) → R k = Ra k) ∧ (∀ k : Nat, k ∉ ([] : List Nat) → G k = Ga k) ∧ rK2 (Ra 3) (R 3) ∧ R 3 12 = g12 ∧ R 3 13 = g13 ∧ R 3 14 = g14 ∧ R 3 15 = g15 ∧ R 3 16 = g16)) args s 0 0 (mz_W ad am)) (F0 m 20 ls [.int v11]) := by
    intro v11 hq0_j12 hq1_j12 ls hl
    have hti_12 : g12.toInt ≠ -1 → g13.toInt ≠ -1 := by have h9 := hIR.d.2.2.2.2.2; rw [hg_0, hg_1] at h9; exact fun h8 => (h9 h8).1
    have hti_13 : g12.toInt ≠ -1 → g15.toInt ≠ -1 := by have h9 := hIR.d.2.2.2.2.2; rw [hg_0, hg_3] at h9; exact fun h8 => (h9 h8).2.1
    have hti_14 : g12.toInt ≠ -1 → g16.toInt ≠ -1 := by have h9 := hIR.d.2.2.2.2.2; rw [hg_0, hg_4] at h9; exact fun h8 => (h9 h8).2.2
    refine lv_istore (lv' := [(4, .int v11), (0, .ref am), (1, .int p1)]) hx hb dX13_giveCows_20 hl (by decide) rfl (fun ls hl => ?_)
    refine lv_aload_n hx hb dX13_giveCows_22 rfl (lv_at hl 1 rfl) ?_
    refine mz_getR hx hb htl hown hK hM 3 (Nat.le_of_ble_eq_true rfl) (Nat.le_of_ble_eq_true rfl) (htl _ mw_188) (fun _ h9 => h9) dX13_giveCows_23 ?_
    refine lv_bipush (v := 11) hx hb dX13_giveCows_26 (by decide) ?_
    refine lv_iload_n hx hb dX13_giveCows_28 rfl (lv_at hl 2 rfl) ?_
    refine lv_isub hx hb dX13_giveCows_29 ?_
    refine tk_sub (show (11 : Int32).toInt = 11 by decide) rfl (by omega) (by omega) (fun v16 h_v16 => ?_)
    refine lv_dup2_11 hx hb dX13_giveCows_30 rfl rfl ?_
    refine mz_iald hx hb hK hM 3 (Nat.le_of_ble_eq_true rfl) rfl (nn := 5560) rfl rfl (by omega) (by omega) dX13_giveCows_31 (fun v17 e_v17 => ?_)
    have hq_v17 := tk_rng v17
    refine lv_iload hx hb dX13_giveCows_32 (lv_at hl 0 rfl) ?_
    refine lv_isub hx hb dX13_giveCows_34 ?_
    obtain ⟨v18, hm_v18⟩ : ∃ z : Int32, v17 - v11 = z := ⟨_, rfl⟩
    refine fx_ti hm_v18 ?_
    refine mz_iast (x := v18) hx hb hK hD hM hS 3 (Nat.le_of_ble_eq_true rfl) rfl (nn := 5560) rfl rfl (by omega) (by omega) dX13_giveCows_35 (fun H locs R hM hS hw9 hj9 => ?_)
    have hIR := hIR.put hw9 hj9 (mz_r3 (hIR.at 3) (I := v16.toInt) rfl (by omega) (by omega) (fun h9 => by first | (cases h9; done) | omega) (by unfold mE; omega))
    have hRR := mz_frp (K := [3]) (Fa := Ra) hj9 (fun _ _ => rfl) (by decide)
    have hrel := rK2.put (I := v16.toInt) (rK2.refl rfl) hw9 rfl (by omega) (by omega) (by omega)
    have hg_0 : R 3 12 = _ := (congrFun hw9 12).trans ((pk_un (fun h9 => by have h8 := tk_nat (i := v16) rfl (by omega); omega)).trans hg_0)
    have hg_1 : R 3 13 = _ := (congrFun hw9 13).trans ((pk_un (fun h9 => by have h8 := tk_nat (i := v16) rfl (by omega); omega)).trans hg_1)
    have hg_2 : R 3 14 = _ := (congrFun hw9 14).trans ((pk_un (fun h9 => by have h8 := tk_nat (i := v16) rfl (by omega); omega)).trans hg_2)
    have hg_3 : R 3 15 = _ := (congrFun hw9 15).trans ((pk_un (fun h9 => by have h8 := tk_nat (i := v16) rfl (by omega); omega)).trans hg_3)
    have hg_4 : R 3 16 = _ := (congrFun hw9 16).trans ((pk_un (fun h9 => by have h8 := tk_nat (i := v16) rfl (by omega); omega)).trans hg_4)
    refine lv_aload_n hx hb dX13_giveCows_36 rfl (lv_at hl 1 rfl) ?_
    refine mz_getR hx hb htl hown hK hM 3 (Nat.le_of_ble_eq_true rfl) (Nat.le_of_ble_eq_true rfl) (htl _ mw_188) (fun _ h9 => h9) dX13_giveCows_37 ?_
    refine lv_bipush (v := 10) hx hb dX13_giveCows_40 (by decide) ?_
    refine lv_iload_n hx hb dX13_giveCows_42 rfl (lv_at hl 2 rfl) ?_
    refine lv_iadd hx hb dX13_giveCows_43 ?_
    refine tk_add (show (10 : Int32).toInt = 10 by decide) rfl (by omega) (by omega) (fun v20 h_v20 => ?_)
    refine lv_aload_n hx hb dX13_giveCows_44 rfl (lv_at hl 1 rfl) ?_
    refine mz_getR hx hb htl hown hK hM 3 (Nat.le_of_ble_eq_true rfl) (Nat.le_of_ble_eq_true rfl) (htl _ mw_188) (fun _ h9 => h9) dX13_giveCows_45 ?_
    refine lv_bipush (v := 10) hx hb dX13_giveCows_48 (by decide) ?_
    refine lv_iload_n hx hb dX13_giveCows_50 rfl (lv_at hl 2 rfl) ?_
    refine lv_iadd hx hb dX13_giveCows_51 ?_
    refine tk_add (show (10 : Int32).toInt = 10 by decide) rfl (by omega) (by omega) (fun v21 h_v21 => ?_)
    refine mz_iald hx hb hK hM 3 (Nat.le_of_ble_eq_true rfl) rfl (nn := 5560) rfl rfl (by omega) (by omega) dX13_giveCows_52 (fun v22 e_v22 => ?_)
    have hq_v22 := tk_rng v22
    refine lv_iload hx hb dX13_giveCows_53 (lv_at hl 0 rfl) ?_
    refine lv_iadd hx hb dX13_giveCows_55 ?_
    obtain ⟨v23, hm_v23⟩ : ∃ z : Int32, v22 + v11 = z := ⟨_, rfl⟩
    refine fx_ti hm_v23 ?_
    obtain ⟨w24, e_w24, h_w24⟩ : ∃ z : Int64, v23.toInt64 = z ∧ z.toInt = v23.toInt := ⟨_, rfl, fl_w _⟩
    refine lv_i2l (v := w24) hx hb dX13_giveCows_56 e_w24 ?_
    refine lv_iconst (v := 0) hx hb dX13_giveCows_57 (by decide) ?_
    refine lv_sipush (v := 9999) hx hb dX13_giveCows_58 (by decide) ?_
    have hk_0 : (0 : Int32).toInt = 0 := by decide
    have hk_9999 : (9999 : Int32).toInt = 9999 := by decide
    refine mz_Sj (As := [.long w24, .int 0, .int 9999]) (rest := [.int v20, .ref (ad 3)]) ⟨hx, hb, hml, hown, hts⟩ hK hM hS (k_X13_within l D cy ld ad am hD _ _ _ _ w24 0 9999 (by omega)) ⟨callB_of 3 hts (wl_in mw_1125) rfl rfl rfl (htl _ mw_5) (htl _ mw_1123) hd_yX13_within ⟨(Nat.le_of_ble_eq_true rfl), (Nat.le_of_ble_eq_true rfl)⟩, htl _ mw_1124⟩ rfl hl.1 rfl (Nat.le_of_ble_eq_true rfl) dX13_giveCows_61 ⟨(Nat.le_of_ble_eq_true rfl), (Nat.le_of_ble_eq_true rfl)⟩ (fun v25 H locs hpo hM hS => ?_)
    obtain ⟨hpo26, hpo27⟩ := hpo
    have hq_v25 := tk_rng v25
    refine mz_iast (x := v25) hx hb hK hD hM hS 3 (Nat.le_of_ble_eq_true rfl) rfl (nn := 5560) rfl rfl (by omega) (by omega) dX13_giveCows_64 (fun H locs R hM hS hw9 hj9 => ?_)
    have hIR := hIR.put hw9 hj9 (mz_r3 (hIR.at 3) (I := v20.toInt) rfl (by omega) (by omega) (fun h9 => by first | (cases h9; done) | omega) (by unfold mE; omega))
    have hRR := mz_frp (K := [3]) (Fa := Ra) hj9 hRR (by decide)
    have hrel := rK2.put (I := v20.toInt) hrel hw9 rfl (by omega) (by omega) (by omega)
    have hg_0 : R 3 12 = _ := (congrFun hw9 12).trans ((pk_un (fun h9 => by have h8 := tk_nat (i := v20) rfl (by omega); omega)).trans hg_0)
    have hg_1 : R 3 13 = _ := (congrFun hw9 13).trans ((pk_un (fun h9 => by have h8 := tk_nat (i := v20) rfl (by omega); omega)).trans hg_1)
    have hg_2 : R 3 14 = _ := (congrFun hw9 14).trans ((pk_un (fun h9 => by have h8 := tk_nat (i := v20) rfl (by omega); omega)).trans hg_2)
    have hg_3 : R 3 15 = _ := (congrFun hw9 15).trans ((pk_un (fun h9 => by have h8 := tk_nat (i := v20) rfl (by omega); omega)).trans hg_3)
    have hg_4 : R 3 16 = _ := (congrFun hw9 16).trans ((pk_un (fun h9 => by have h8 := tk_nat (i := v20) rfl (by omega); omega)).trans hg_4)
    exact mz_vret hx hb hr hlocks ⟨hIF, hIG, hIR, (fun _ _ => rfl), hRR, (fun _ _ => rfl), hrel, hg_0, hg_1, hg_2, hg_3, hg_4⟩ hM hS dX13_giveCows_65
  refine lv_icmp_ge (tgt := 19) hx hb dX13_giveCows_12 (by decide) (fun c9 => ?_) (fun c9 => ?_)
  · have hc6 : v5.toInt ≤ p2.toInt := (fi_le rfl rfl).mp c9
    refine lv_iload_n hx hb dX13_giveCows_19 rfl (lv_at hl 0 rfl) ?_
    exact hj12 v5 (by omega) (by omega) _ (lv_sub hl [1, 2] rfl)
  · have hc6 : ¬ (v5.toInt ≤ p2.toInt) := fun h9 => c9 ((fi_le rfl rfl).mpr h9)
    refine lv_iload_n hx hb dX13_giveCows_15 rfl (lv_at hl 3 rfl) ?_
    refine lv_goto (tgt := 20) hx hb dX13_giveCows_16 (by decide) ?_
    exact hj12 p2 (by omega) (by omega) _ (lv_sub hl [1, 2] rfl)
end
section
set_option maxHeartbeats 4000000 in
set_option maxRecDepth 100000 in
theorem k_X13_inDuel_2 (l : Launch) (D : va_G) (cy : Nat → ClassId) (ld ad : Nat → Nat) (am : Nat) (hD : mz_D ad am) (Fa : Nat → Int32) (Ga : Nat → Int64) (Ra : Nat → Nat → Int32) (Sa : Nat → Nat → Int64) (g0 : Int32) (hg_0 : Ra 3 14 = g0) : Met l yX13_inDuel (wl yX13_inDuel cX13_inDuel 2 (some .int)) ({ frames := 3, cells := 0, slots := 0, locals := 140 }) (mz_p D cy ld ad am Fa Ga Ra Sa [.ref am, .int 2]) (mz_j D cy ad am Fa Ga Ra Sa (fun r => (-1) * g0.toInt + r.toInt = 0)) 0 0 (mz_W ad am) := by
  refine mz_met (y := yX13_inDuel) (cc := cX13_inDuel) (maxL := 2) (ret := (some .int)) (av := [.ref am, .int 2]) _ (by decide) (Nat.le_of_ble_eq_true rfl) ?_
  intro p e s m args below meth c hx hb hr hml hts htl hown hlocks hK H locs hM hS ls hl
  have hown : s.vm.findClass RX13 = some m.cls := hown
  have hl : lv_has ls 2 [(0, .ref am), (1, .int 2)] := hl
  have hq_g0 := tk_rng g0
  refine lv_aload_n hx hb dX13_inDuel_0 rfl (lv_at hl 0 rfl) ?_
  refine mz_getR hx hb htl hown hK hM 3 (Nat.le_of_ble_eq_true rfl) (Nat.le_of_ble_eq_true rfl) (htl _ mw_188) (fun _ h9 => h9) dX13_inDuel_1 ?_
  refine lv_bipush (v := 12) hx hb dX13_inDuel_4 (by decide) ?_
  refine lv_iload_n hx hb dX13_inDuel_6 rfl (lv_at hl 1 rfl) ?_
  refine lv_iadd hx hb dX13_inDuel_7 ?_
  refine fx_ti (v := 14) (by decide) ?_
  refine mz_iald hx hb hK hM 3 (Nat.le_of_ble_eq_true rfl) rfl (nn := 5560) rfl (I := 14) (by decide) (by decide) (by decide) dX13_inDuel_8 (fun v9 e9 => ?_)
  refine fx_ti (v := g0) (e9.symm.trans (show Ra 3 (14 : Int32).toNatClampNeg = _ from hg_0)) ?_
  exact mz_jret (v := g0) hx hb hr rfl hlocks (by omega) hM hS dX13_inDuel_9
end
section
theorem hd_yX13_endDuel : yX13_endDuel.cls ≠ "java/lang/invoke/MethodHandle" ∧ yX13_endDuel.cls ≠ "java/lang/invoke/VarHandle" ∧ (parseMethodDescriptor yX13_endDuel.desc).map (fun d => d.parameters.length) = some 0 := by decide +kernel
theorem dX13_partNow_0 : decode cX13_partNow 0 = .ok (.aload_n 0, 1) := by decide +kernel
theorem dX13_partNow_1 : decode cX13_partNow 1 = .ok (.invokevirtual 434, 3) := by decide +kernel
theorem dX13_partNow_4 : decode cX13_partNow 4 = .ok (.ifCond .ne 6, 3) := by decide +kernel
theorem dX13_partNow_10 : decode cX13_partNow 10 = .ok (.aload_n 0, 1) := by decide +kernel
theorem dX13_partNow_11 : decode cX13_partNow 11 = .ok (.iconst 2, 1) := by decide +kernel
theorem dX13_partNow_12 : decode cX13_partNow 12 = .ok (.invokevirtual 455, 3) := by decide +kernel
theorem dX13_partNow_15 : decode cX13_partNow 15 = .ok (.aload_n 0, 1) := by decide +kernel
theorem dX13_partNow_16 : decode cX13_partNow 16 = .ok (.iconst 2, 1) := by decide +kernel
theorem dX13_partNow_17 : decode cX13_partNow 17 = .ok (.invokevirtual 194, 3) := by decide +kernel
theorem dX13_partNow_20 : decode cX13_partNow 20 = .ok (.istore_n 1, 1) := by decide +kernel
theorem dX13_partNow_21 : decode cX13_partNow 21 = .ok (.aload_n 0, 1) := by decide +kernel
theorem dX13_partNow_22 : decode cX13_partNow 22 = .ok (.invokevirtual 167, 3) := by decide +kernel
theorem dX13_partNow_25 : decode cX13_partNow 25 = .ok (.iload_n 1, 1) := by decide +kernel
theorem dX13_partNow_26 : decode cX13_partNow 26 = .ok (.ireturn, 1) := by decide +kernel
theorem dX13_partNow_7 : decode cX13_partNow 7 = .ok (.bipush (-3), 2) := by decide +kernel
theorem dX13_partNow_9 : decode cX13_partNow 9 = .ok (.ireturn, 1) := by decide +kernel
set_option maxHeartbeats 4000000 in
set_option maxRecDepth 100000 in
theorem k_X13_partNow (l : Launch) (D : va_G) (cy : Nat → ClassId) (ld ad : Nat → Nat) (am : Nat) (hD : mz_D ad am) (Fa : Nat → Int32) (Ga : Nat → Int64) (Ra : Nat → Nat → Int32) (Sa : Nat → Nat → Int64) (hIF : mz_IF true Fa) (hIG : mz_IG Ga) (hIR : mz_IR [] true Ra) : Met l yX13_partNow (wl yX13_partNow cX13_partNow 2 (some .int)) ({ frames := 5, cells := 0, slots := 0, locals := 280 }) (mz_p D cy ld ad am Fa Ga Ra Sa [.ref am]) (mz_i D cy ad am (fun r F G R S => mz_IF true F ∧ mz_IG G ∧ mz_IR [] true R ∧ (∀ k : Nat, k ∉ ([8] : List Nat) → F k = Fa k) ∧ (∀ k : Nat, k ∉ ([3, 6, 7] : List Nat) → R k = Ra k) ∧ (∀ k : Nat, k ∉ ([] : List Nat) → G k = Ga k) ∧ rK1 (Ra 3) (R 3) ∧ (-3) ≤ r.toInt ∧ r.toInt ≤ 99)) 0 0 (mz_W ad am) := by
  refine mz_met (y := yX13_partNow) (cc := cX13_partNow) (maxL := 2) (ret := (some .int)) (av := [.ref am]) _ (by decide) (Nat.le_of_ble_eq_true rfl) ?_
  intro p e s m args below meth c hx hb hr hml hts htl hown hlocks hK H locs hM hS ls hl
  have hown : s.vm.findClass RX13 = some m.cls := hown
  have hl : lv_has ls 2 [(0, .ref am)] := hl
  refine lv_aload_n hx hb dX13_partNow_0 rfl (lv_at hl 0 rfl) ?_
  obtain ⟨v2, hf1⟩ : ∃ z : Int32, Ra 3 12 = z := ⟨_, rfl⟩
  have hq_v2 := tk_rng v2
  have hr_v2 : (-1) ≤ v2.toInt ∧ v2.toInt ≤ 7 := by have h9 := hIR.d; unfold dO at h9; rw [hf1] at h9; omega
  refine mz_Vj (As := []) (rest := []) ⟨hx, hb, hml, hown, hts⟩ hK hM hS (k_X13_isDuel l D cy ld ad am hD _ _ _ _ v2 (hIF.weak) hIG hIR hf1) ⟨callB_of 0 hts (wl_in mw_1071) rfl rfl rfl (htl _ mw_5) (htl _ mw_1068) hd_yX13_isDuel ⟨(Nat.le_of_ble_eq_true rfl), (Nat.le_of_ble_eq_true rfl)⟩, htl _ mw_1069, htl _ mw_1070⟩ rfl hl.1 rfl (Nat.le_of_ble_eq_true rfl) dX13_partNow_1 ⟨(Nat.le_of_ble_eq_true rfl), (Nat.le_of_ble_eq_true rfl)⟩ (fun v3 H locs hpo hM hS => ?_)
  obtain ⟨hpo4, hpo5, hpo6, hpo10, hpo11, hpo12⟩ := hpo
  have hq_v3 := tk_rng v3
  refine lv_if_ne (tgt := 10) hx hb dX13_partNow_4 (by decide) (fun c9 => ?_) (fun c9 => ?_)
  · have hc14 : ¬ (v3.toInt = 0) := fun h9 => c9 ((fi_eq rfl (show (0 : Int32).toInt = 0 by decide)).mpr h9)
    have hwk_15 : 0 ≤ v2.toInt := by omega
    refine lv_aload_n hx hb dX13_partNow_10 rfl (lv_at hl 0 rfl) ?_
    refine lv_iconst (v := 2) hx hb dX13_partNow_11 (by decide) ?_
    have hk_2 : (2 : Int32).toInt = 2 := by decide
    refine mz_Vv (As := [.int 2]) (rest := []) ⟨hx, hb, hml, hown, hts⟩ hK hM hS (k_X13_remember l D cy ld ad am hD _ _ _ _ 2 hIF hIG hIR (by omega) (by omega)) ⟨callB_of 1 hts (wl_in mw_1079) rfl rfl rfl (htl _ mw_5) (htl _ mw_1076) hd_yX13_remember ⟨(Nat.le_of_ble_eq_true rfl), (Nat.le_of_ble_eq_true rfl)⟩, htl _ mw_1077, htl _ mw_1078⟩ rfl hl.1 rfl (Nat.le_of_ble_eq_true rfl) dX13_partNow_12 ⟨(Nat.le_of_ble_eq_true rfl), (Nat.le_of_ble_eq_true rfl)⟩ (fun H locs F G R S hpo hM hS => ?_)
    obtain ⟨hIF, hIG, hIR, hfr9, hrr9, hgr9⟩ := hpo
    have hFF := mz_fr (K := [8]) (Fa := Fa) hfr9 (fun _ _ => rfl) (by decide)
    have hRR := mz_fr (K := [3, 6, 7]) (Fa := Ra) hrr9 (fun _ _ => rfl) (by decide)
    have hGG := mz_fr (K := []) (Fa := Ga) hgr9 (fun _ _ => rfl) (by decide)
    have hrel : rK1 (Ra 3) (R 3) := (rK1.refl rfl).trans (rK1.refl (hrr9 3 (by decide)))
    have hf1 : R 3 12 = _ := (congrFun (hrr9 3 (by decide)) 12).trans hf1
    refine lv_aload_n hx hb dX13_partNow_15 rfl (lv_at hl 0 rfl) ?_
    refine lv_iconst (v := 2) hx hb dX13_partNow_16 (by decide) ?_
    obtain ⟨v18, hf17⟩ : ∃ z : Int32, R 3 14 = z := ⟨_, rfl⟩
    have hq_v18 := tk_rng v18
    have hr_v18 : (-1) ≤ v18.toInt ∧ v18.toInt ≤ 99 := by have h9 := hIR.d; unfold dO at h9; rw [hf17] at h9; omega
    have hk_2 : (2 : Int32).toInt = 2 := by decide
    refine mz_Vj (As := [.int 2]) (rest := []) ⟨hx, hb, hml, hown, hts⟩ hK hM hS (k_X13_inDuel_2 l D cy ld ad am hD _ _ _ _ v18 hf17) ⟨callB_of 1 hts (wl_in mw_1046) rfl rfl rfl (htl _ mw_5) (htl _ mw_1043) hd_yX13_inDuel ⟨(Nat.le_of_ble_eq_true rfl), (Nat.le_of_ble_eq_true rfl)⟩, htl _ mw_1044, htl _ mw_1045⟩ rfl hl.1 rfl (Nat.le_of_ble_eq_true rfl) dX13_partNow_17 ⟨(Nat.le_of_ble_eq_true rfl), (Nat.le_of_ble_eq_true rfl)⟩ (fun v19 H locs hpo hM hS => ?_)
    have hpo20 := hpo
    have hq_v19 := tk_rng v19
    refine lv_istore_n (lv' := [(1, .int v19), (0, .ref am)]) hx hb dX13_partNow_20 rfl hl (by decide) rfl (fun ls hl => ?_)
    refine lv_aload_n hx hb dX13_partNow_21 rfl (lv_at hl 1 rfl) ?_
    have hIR := hIR.bare
    refine mz_Vv (As := []) (rest := []) ⟨hx, hb, hml, hown, hts⟩ hK hM hS (k_X13_endDuel l D cy ld ad am hD _ _ _ _ hIF hIG hIR) ⟨callB_of 0 hts (wl_in mw_248) rfl rfl rfl (htl _ mw_5) (htl _ mw_245) hd_yX13_endDuel ⟨(Nat.le_of_ble_eq_true rfl), (Nat.le_of_ble_eq_true rfl)⟩, htl _ mw_246, htl _ mw_247⟩ rfl hl.1 rfl (Nat.le_of_ble_eq_true rfl) dX13_partNow_22 ⟨(Nat.le_of_ble_eq_true rfl), (Nat.le_of_ble_eq_true rfl)⟩ (fun H locs F G R S hpo hM hS => ?_)
    obtain ⟨hIF, hIG, hIR, hfr9, hrr9, hgr9, hrel9, hf22, hf23, hf24, hf25, hf26⟩ := hpo
    have hFF := mz_fr (K := [8]) (Fa := Fa) hfr9 hFF (by decide)
    have hRR := mz_fr (K := [3, 6, 7]) (Fa := Ra) hrr9 hRR (by decide)
    have hGG := mz_fr (K := []) (Fa := Ga) hgr9 hGG (by decide)
    have hrel := hrel.trans hrel9.k1
    refine lv_iload_n hx hb dX13_partNow_25 rfl (lv_at hl 0 rfl) ?_
    exact mz_iret (v := v19) hx hb hr rfl hlocks ⟨hIF, hIG, hIR, hFF, hRR, hGG, hrel, (by omega), (by omega)⟩ hM hS dX13_partNow_26
  · have hc14 : v3.toInt = 0 := (fi_eq rfl (show (0 : Int32).toInt = 0 by decide)).mp c9
    have hwk_28 : v2.toInt ≤ (-1) := by omega
    refine lv_bipush (v := (-3)) hx hb dX13_partNow_7 (by decide) ?_
    have hk_m3 : ((-3) : Int32).toInt = (-3) := by decide
    exact mz_iret (v := (-3)) hx hb hr rfl hlocks ⟨hIF, hIG, hIR, (fun _ _ => rfl), (fun _ _ => rfl), (fun _ _ => rfl), (rK1.refl rfl), (by omega), (by omega)⟩ hM hS dX13_partNow_9
end
section
theorem hd_yX13_partNow : yX13_partNow.cls ≠ "java/lang/invoke/MethodHandle" ∧ yX13_partNow.cls ≠ "java/lang/invoke/VarHandle" ∧ (parseMethodDescriptor yX13_partNow.desc).map (fun d => d.parameters.length) = some 0 := by decide +kernel
theorem dX13_part_0 : decode cX13_part 0 = .ok (.aload_n 0, 1) := by decide +kernel
theorem dX13_part_1 : decode cX13_part 1 = .ok (.iconst 0, 1) := by decide +kernel
theorem dX13_part_2 : decode cX13_part 2 = .ok (.putfield 170, 3) := by decide +kernel
theorem dX13_part_5 : decode cX13_part 5 = .ok (.aload_n 0, 1) := by decide +kernel
theorem dX13_part_6 : decode cX13_part 6 = .ok (.aload_n 0, 1) := by decide +kernel
theorem dX13_part_7 : decode cX13_part 7 = .ok (.invokevirtual 483, 3) := by decide +kernel
theorem dX13_part_10 : decode cX13_part 10 = .ok (.invokevirtual 183, 3) := by decide +kernel
theorem dX13_part_13 : decode cX13_part 13 = .ok (.ireturn, 1) := by decide +kernel
set_option maxHeartbeats 4000000 in
set_option maxRecDepth 100000 in
theorem k_X13_part (l : Launch) (D : va_G) (cy : Nat → ClassId) (ld ad : Nat → Nat) (am : Nat) (hD : mz_D ad am) (Fa : Nat → Int32) (Ga : Nat → Int64) (Ra : Nat → Nat → Int32) (Sa : Nat → Nat → Int64) (hIF : mz_IF true Fa) (hIG : mz_IG Ga) (hIR : mz_IR [] true Ra) : Met l yX13_part (wl yX13_part cX13_part 1 (some .int)) ({ frames := 6, cells := 0, slots := 0, locals := 350 }) (mz_p D cy ld ad am Fa Ga Ra Sa [.ref am]) (mz_i D cy ad am (fun r F G R S => mz_IF true F ∧ mz_IG G ∧ mz_IR [] true R ∧ (∀ k : Nat, k ∉ ([0, 1, 8] : List Nat) → F k = Fa k) ∧ (∀ k : Nat, k ∉ ([2, 3, 6, 7] : List Nat) → R k = Ra k) ∧ (∀ k : Nat, k ∉ ([] : List Nat) → G k = Ga k) ∧ rK1 (Ra 3) (R 3) ∧ (-3) ≤ r.toInt ∧ r.toInt ≤ 99)) 0 0 (mz_W ad am) := by
  refine mz_met (y := yX13_part) (cc := cX13_part) (maxL := 1) (ret := (some .int)) (av := [.ref am]) _ (by decide) (Nat.le_of_ble_eq_true rfl) ?_
  intro p e s m args below meth c hx hb hr hml hts htl hown hlocks hK H locs hM hS ls hl
  have hown : s.vm.findClass RX13 = some m.cls := hown
  have hl : lv_has ls 1 [(0, .ref am)] := hl
  refine lv_aload_n hx hb dX13_part_0 rfl (lv_at hl 0 rfl) ?_
  refine lv_iconst (v := 0) hx hb dX13_part_1 (by decide) ?_
  have hk_0 : (0 : Int32).toInt = 0 := by decide
  refine mz_putI (ty := .int) (x := 0) hx hb htl hown hK hD hM hS 0 (Nat.le_of_ble_eq_true rfl) rfl (htl _ mw_286) (fun _ h9 => h9) rfl (tyX13_ok 0 (by decide)) rfl rfl dX13_part_2 (fun H locs F hM hS hf9 hj9 => ?_)
  have hIF := hIF.put hf9 hj9 (tk_rng _).1 (tk_rng _).2 (by decide)
  have hFF := mz_frp (K := [0, 1, 8]) (Fa := Fa) hj9 (fun _ _ => rfl) (by decide)
  have hf2 := hf9
  refine lv_aload_n hx hb dX13_part_5 rfl (lv_at hl 0 rfl) ?_
  refine lv_aload_n hx hb dX13_part_6 rfl (lv_at hl 0 rfl) ?_
  refine mz_Vi (As := []) (rest := [.ref am]) ⟨hx, hb, hml, hown, hts⟩ hK hM hS (k_X13_partNow l D cy ld ad am hD _ _ _ _ hIF hIG hIR) ⟨callB_of 0 hts (wl_in mw_1141) rfl rfl rfl (htl _ mw_5) (htl _ mw_1138) hd_yX13_partNow ⟨(Nat.le_of_ble_eq_true rfl), (Nat.le_of_ble_eq_true rfl)⟩, htl _ mw_1139, htl _ mw_1140⟩ rfl hl.1 rfl (Nat.le_of_ble_eq_true rfl) dX13_part_7 ⟨(Nat.le_of_ble_eq_true rfl), (Nat.le_of_ble_eq_true rfl)⟩ (fun v3 H locs F G R S hpo hM hS => ?_)
  obtain ⟨hIF, hIG, hIR, hfr9, hrr9, hgr9, hrel9, hpo4, hpo5⟩ := hpo
  have hq_v3 := tk_rng v3
  have hFF := mz_fr (K := [0, 1, 8]) (Fa := Fa) hfr9 hFF (by decide)
  have hRR := mz_fr (K := [2, 3, 6, 7]) (Fa := Ra) hrr9 (fun _ _ => rfl) (by decide)
  have hGG := mz_fr (K := []) (Fa := Ga) hgr9 (fun _ _ => rfl) (by decide)
  have hrel := (rK1.refl rfl).trans hrel9
  have hf2 := (hfr9 0 (by decide)).trans hf2
  refine mz_Vi (As := [.int v3]) (rest := []) ⟨hx, hb, hml, hown, hts⟩ hK hM hS (k_X13_tell l D cy ld ad am hD _ _ _ _ v3 hIF hIG hIR (by omega) (by omega)) ⟨callB_of 1 hts (wl_in mw_296) rfl rfl rfl (htl _ mw_5) (htl _ mw_293) hd_yX13_tell ⟨(Nat.le_of_ble_eq_true rfl), (Nat.le_of_ble_eq_true rfl)⟩, htl _ mw_294, htl _ mw_295⟩ rfl hl.1 rfl (Nat.le_of_ble_eq_true rfl) dX13_part_10 ⟨(Nat.le_of_ble_eq_true rfl), (Nat.le_of_ble_eq_true rfl)⟩ (fun v10 H locs F G R S hpo hM hS => ?_)
  obtain ⟨hIF, hIG, hIR, hfr9, hrr9, hgr9, hpo11⟩ := hpo
  have hq_v10 := tk_rng v10
  have hFF := mz_fr (K := [0, 1, 8]) (Fa := Fa) hfr9 hFF (by decide)
  have hRR := mz_fr (K := [2, 3, 6, 7]) (Fa := Ra) hrr9 hRR (by decide)
  have hGG := mz_fr (K := []) (Fa := Ga) hgr9 hGG (by decide)
  have hrel : rK1 (Ra 3) (R 3) := hrel.trans (rK1.refl (hrr9 3 (by decide)))
  have hf2 := (hfr9 0 (by decide)).trans hf2
  exact mz_iret (v := v10) hx hb hr rfl hlocks ⟨hIF, hIG, hIR, hFF, hRR, hGG, hrel, (by omega), (by omega)⟩ hM hS dX13_part_13
end
section
theorem dX13_seenBy_0 : decode cX13_seenBy 0 = .ok (.iload_n 0, 1) := by decide +kernel
theorem dX13_seenBy_1 : decode cX13_seenBy 1 = .ok (.ifCond .ne 5, 3) := by decide +kernel
theorem dX13_seenBy_6 : decode cX13_seenBy 6 = .ok (.iload_n 0, 1) := by decide +kernel
theorem dX13_seenBy_7 : decode cX13_seenBy 7 = .ok (.bipush 10, 2) := by decide +kernel
theorem dX13_seenBy_9 : decode cX13_seenBy 9 = .ok (.idiv, 1) := by decide +kernel
theorem dX13_seenBy_10 : decode cX13_seenBy 10 = .ok (.istore_n 2, 1) := by decide +kernel
theorem dX13_seenBy_11 : decode cX13_seenBy 11 = .ok (.iload_n 0, 1) := by decide +kernel
theorem dX13_seenBy_12 : decode cX13_seenBy 12 = .ok (.bipush 10, 2) := by decide +kernel
theorem dX13_seenBy_14 : decode cX13_seenBy 14 = .ok (.irem, 1) := by decide +kernel
theorem dX13_seenBy_15 : decode cX13_seenBy 15 = .ok (.iload_n 1, 1) := by decide +kernel
theorem dX13_seenBy_16 : decode cX13_seenBy 16 = .ok (.if_icmp .ne 10, 3) := by decide +kernel
theorem dX13_seenBy_26 : decode cX13_seenBy 26 = .ok (.bipush 100, 2) := by decide +kernel
theorem dX13_seenBy_28 : decode cX13_seenBy 28 = .ok (.iload_n 2, 1) := by decide +kernel
theorem dX13_seenBy_29 : decode cX13_seenBy 29 = .ok (.isub, 1) := by decide +kernel
theorem dX13_seenBy_30 : decode cX13_seenBy 30 = .ok (.ireturn, 1) := by decide +kernel
theorem dX13_seenBy_19 : decode cX13_seenBy 19 = .ok (.iload_n 2, 1) := by decide +kernel
theorem dX13_seenBy_20 : decode cX13_seenBy 20 = .ok (.bipush 100, 2) := by decide +kernel
theorem dX13_seenBy_22 : decode cX13_seenBy 22 = .ok (.isub, 1) := by decide +kernel
theorem dX13_seenBy_23 : decode cX13_seenBy 23 = .ok (.goto 7, 3) := by decide +kernel
theorem dX13_seenBy_4 : decode cX13_seenBy 4 = .ok (.iconst 0, 1) := by decide +kernel
theorem dX13_seenBy_5 : decode cX13_seenBy 5 = .ok (.ireturn, 1) := by decide +kernel
set_option maxHeartbeats 4000000 in
set_option maxRecDepth 100000 in
theorem k_X13_seenBy (l : Launch) (D : va_G) (cy : Nat → ClassId) (ld ad : Nat → Nat) (am : Nat) (hD : mz_D ad am) (Fa : Nat → Int32) (Ga : Nat → Int64) (Ra : Nat → Nat → Int32) (Sa : Nat → Nat → Int64) (p0 : Int32) (p1 : Int32) : Met l yX13_seenBy (wl yX13_seenBy cX13_seenBy 3 (some .int)) ({ frames := 3, cells := 0, slots := 0, locals := 140 }) (mz_p D cy ld ad am Fa Ga Ra Sa [.int p0, .int p1]) (mz_j D cy ad am Fa Ga Ra Sa (fun r => True)) 0 0 (mz_W ad am) := by
  refine mz_met (y := yX13_seenBy) (cc := cX13_seenBy) (maxL := 3) (ret := (some .int)) (av := [.int p0, .int p1]) _ (by decide) (Nat.le_of_ble_eq_true rfl) ?_
  intro p e s m args below meth c hx hb hr hml hts htl hown hlocks hK H locs hM hS ls hl
  have hown : s.vm.findClass RX13 = some m.cls := hown
  have hl : lv_has ls 3 [(0, .int p0), (1, .int p1)] := hl
  have hr_p0 := tk_rng p0
  have hr_p1 := tk_rng p1
  refine lv_iload_n hx hb dX13_seenBy_0 rfl (lv_at hl 0 rfl) ?_
  refine lv_if_ne (tgt := 6) hx hb dX13_seenBy_1 (by decide) (fun c9 => ?_) (fun c9 => ?_)
  · have hc1 : ¬ (p0.toInt = 0) := fun h9 => c9 ((fi_eq rfl (show (0 : Int32).toInt = 0 by decide)).mpr h9)
    refine lv_iload_n hx hb dX13_seenBy_6 rfl (lv_at hl 0 rfl) ?_
    refine lv_bipush (v := 10) hx hb dX13_seenBy_7 (by decide) ?_
    refine lv_idiv hx hb dX13_seenBy_9 (by decide) ?_
    refine tk_any (fun v2 => ?_)
    refine lv_istore_n (lv' := [(2, .int v2), (0, .int p0), (1, .int p1)]) hx hb dX13_seenBy_10 rfl hl (by decide) rfl (fun ls hl => ?_)
    refine lv_iload_n hx hb dX13_seenBy_11 rfl (lv_at hl 1 rfl) ?_
    refine lv_bipush (v := 10) hx hb dX13_seenBy_12 (by decide) ?_
    refine lv_irem hx hb dX13_seenBy_14 (by decide) ?_
    refine tk_any (fun v3 => ?_)
    refine lv_iload_n hx hb dX13_seenBy_15 rfl (lv_at hl 2 rfl) ?_
    refine lv_icmp_ne (tgt := 26) hx hb dX13_seenBy_16 (by decide) (fun c9 => ?_) (fun c9 => ?_)
    · have hc4 : ¬ (v3.toInt = p1.toInt) := fun h9 => c9 ((fi_eq rfl rfl).mpr h9)
      refine lv_bipush (v := 100) hx hb dX13_seenBy_26 (by decide) ?_
      refine lv_iload_n hx hb dX13_seenBy_28 rfl (lv_at hl 0 rfl) ?_
      refine lv_isub hx hb dX13_seenBy_29 ?_
      obtain ⟨v5, hm_v5⟩ : ∃ z : Int32, 100 - v2 = z := ⟨_, rfl⟩
      refine fx_ti hm_v5 ?_
      exact mz_jret (v := v5) hx hb hr rfl hlocks trivial hM hS dX13_seenBy_30
    · have hc4 : v3.toInt = p1.toInt := (fi_eq rfl rfl).mp c9
      refine lv_iload_n hx hb dX13_seenBy_19 rfl (lv_at hl 0 rfl) ?_
      refine lv_bipush (v := 100) hx hb dX13_seenBy_20 (by decide) ?_
      refine lv_isub hx hb dX13_seenBy_22 ?_
      obtain ⟨v6, hm_v6⟩ : ∃ z : Int32, v2 - 100 = z := ⟨_, rfl⟩
      refine fx_ti hm_v6 ?_
      refine lv_goto (tgt := 30) hx hb dX13_seenBy_23 (by decide) ?_
      exact mz_jret (v := v6) hx hb hr rfl hlocks trivial hM hS dX13_seenBy_30
  · have hc1 : p0.toInt = 0 := (fi_eq rfl (show (0 : Int32).toInt = 0 by decide)).mp c9
    refine lv_iconst (v := 0) hx hb dX13_seenBy_4 (by decide) ?_
    have hk_0 : (0 : Int32).toInt = 0 := by decide
    exact mz_jret (v := 0) hx hb hr rfl hlocks trivial hM hS dX13_seenBy_5
end
section
theorem dX13_openLevel_0 : decode cX13_openLevel 0 = .ok (.aload_n 0, 1) := by decide +kernel
theorem dX13_openLevel_1 : decode cX13_openLevel 1 = .ok (.getfield 113, 3) := by decide +kernel
theorem dX13_openLevel_4 : decode cX13_openLevel 4 = .ok (.iload_n 1, 1) := by decide +kernel
theorem dX13_openLevel_5 : decode cX13_openLevel 5 = .ok (.iconst (-1), 1) := by decide +kernel
theorem dX13_openLevel_6 : decode cX13_openLevel 6 = .ok (.iastore, 1) := by decide +kernel
theorem dX13_openLevel_7 : decode cX13_openLevel 7 = .ok (.aload_n 0, 1) := by decide +kernel
theorem dX13_openLevel_8 : decode cX13_openLevel 8 = .ok (.getfield 116, 3) := by decide +kernel
theorem dX13_openLevel_11 : decode cX13_openLevel 11 = .ok (.iload_n 1, 1) := by decide +kernel
theorem dX13_openLevel_12 : decode cX13_openLevel 12 = .ok (.iconst 0, 1) := by decide +kernel
theorem dX13_openLevel_13 : decode cX13_openLevel 13 = .ok (.iastore, 1) := by decide +kernel
theorem dX13_openLevel_14 : decode cX13_openLevel 14 = .ok (.aload_n 0, 1) := by decide +kernel
theorem dX13_openLevel_15 : decode cX13_openLevel 15 = .ok (.getfield 119, 3) := by decide +kernel
theorem dX13_openLevel_18 : decode cX13_openLevel 18 = .ok (.iload_n 1, 1) := by decide +kernel
theorem dX13_openLevel_19 : decode cX13_openLevel 19 = .ok (.iconst (-1), 1) := by decide +kernel
theorem dX13_openLevel_20 : decode cX13_openLevel 20 = .ok (.iastore, 1) := by decide +kernel
theorem dX13_openLevel_21 : decode cX13_openLevel 21 = .ok (.aload_n 0, 1) := by decide +kernel
theorem dX13_openLevel_22 : decode cX13_openLevel 22 = .ok (.getfield 122, 3) := by decide +kernel
theorem dX13_openLevel_25 : decode cX13_openLevel 25 = .ok (.iload_n 1, 1) := by decide +kernel
theorem dX13_openLevel_26 : decode cX13_openLevel 26 = .ok (.aload_n 0, 1) := by decide +kernel
theorem dX13_openLevel_27 : decode cX13_openLevel 27 = .ok (.iconst 4, 1) := by decide +kernel
theorem dX13_openLevel_28 : decode cX13_openLevel 28 = .ok (.invokevirtual 194, 3) := by decide +kernel
theorem dX13_openLevel_31 : decode cX13_openLevel 31 = .ok (.iastore, 1) := by decide +kernel
theorem dX13_openLevel_32 : decode cX13_openLevel 32 = .ok (.aload_n 0, 1) := by decide +kernel
theorem dX13_openLevel_33 : decode cX13_openLevel 33 = .ok (.bipush 16, 2) := by decide +kernel
theorem dX13_openLevel_35 : decode cX13_openLevel 35 = .ok (.iload_n 1, 1) := by decide +kernel
theorem dX13_openLevel_36 : decode cX13_openLevel 36 = .ok (.iadd, 1) := by decide +kernel
theorem dX13_openLevel_37 : decode cX13_openLevel 37 = .ok (.invokevirtual 179, 3) := by decide +kernel
theorem dX13_openLevel_40 : decode cX13_openLevel 40 = .ok (.return_, 1) := by decide +kernel
end
section
theorem hd_yX13_seenBy : yX13_seenBy.cls ≠ "java/lang/invoke/MethodHandle" ∧ yX13_seenBy.cls ≠ "java/lang/invoke/VarHandle" ∧ (parseMethodDescriptor yX13_seenBy.desc).map (fun d => d.parameters.length) = some 2 := by decide +kernel
theorem dX13_weigh_0 : decode cX13_weigh 0 = .ok (.aload_n 0, 1) := by decide +kernel
theorem dX13_weigh_1 : decode cX13_weigh 1 = .ok (.getfield 119, 3) := by decide +kernel
theorem dX13_weigh_4 : decode cX13_weigh 4 = .ok (.iload_n 1, 1) := by decide +kernel
theorem dX13_weigh_5 : decode cX13_weigh 5 = .ok (.iaload, 1) := by decide +kernel
theorem dX13_weigh_6 : decode cX13_weigh 6 = .ok (.iconst (-1), 1) := by decide +kernel
theorem dX13_weigh_7 : decode cX13_weigh 7 = .ok (.if_icmp .eq 31, 3) := by decide +kernel
theorem dX13_weigh_38 : decode cX13_weigh 38 = .ok (.aload_n 0, 1) := by decide +kernel
theorem dX13_weigh_39 : decode cX13_weigh 39 = .ok (.getfield 116, 3) := by decide +kernel
theorem dX13_weigh_42 : decode cX13_weigh 42 = .ok (.iload_n 1, 1) := by decide +kernel
theorem dX13_weigh_43 : decode cX13_weigh 43 = .ok (.iload_n 2, 1) := by decide +kernel
theorem dX13_weigh_44 : decode cX13_weigh 44 = .ok (.iastore, 1) := by decide +kernel
theorem dX13_weigh_45 : decode cX13_weigh 45 = .ok (.aload_n 0, 1) := by decide +kernel
theorem dX13_weigh_46 : decode cX13_weigh 46 = .ok (.getfield 119, 3) := by decide +kernel
theorem dX13_weigh_49 : decode cX13_weigh 49 = .ok (.iload_n 1, 1) := by decide +kernel
theorem dX13_weigh_50 : decode cX13_weigh 50 = .ok (.aload_n 0, 1) := by decide +kernel
theorem dX13_weigh_51 : decode cX13_weigh 51 = .ok (.getfield 113, 3) := by decide +kernel
theorem dX13_weigh_54 : decode cX13_weigh 54 = .ok (.iload_n 1, 1) := by decide +kernel
theorem dX13_weigh_55 : decode cX13_weigh 55 = .ok (.iaload, 1) := by decide +kernel
theorem dX13_weigh_56 : decode cX13_weigh 56 = .ok (.iastore, 1) := by decide +kernel
theorem dX13_weigh_57 : decode cX13_weigh 57 = .ok (.return_, 1) := by decide +kernel
theorem dX13_weigh_10 : decode cX13_weigh 10 = .ok (.iload_n 2, 1) := by decide +kernel
theorem dX13_weigh_11 : decode cX13_weigh 11 = .ok (.aload_n 0, 1) := by decide +kernel
theorem dX13_weigh_12 : decode cX13_weigh 12 = .ok (.getfield 122, 3) := by decide +kernel
theorem dX13_weigh_15 : decode cX13_weigh 15 = .ok (.iload_n 1, 1) := by decide +kernel
theorem dX13_weigh_16 : decode cX13_weigh 16 = .ok (.iaload, 1) := by decide +kernel
theorem dX13_weigh_17 : decode cX13_weigh 17 = .ok (.invokestatic 492, 3) := by decide +kernel
theorem dX13_weigh_20 : decode cX13_weigh 20 = .ok (.aload_n 0, 1) := by decide +kernel
theorem dX13_weigh_21 : decode cX13_weigh 21 = .ok (.getfield 116, 3) := by decide +kernel
theorem dX13_weigh_24 : decode cX13_weigh 24 = .ok (.iload_n 1, 1) := by decide +kernel
theorem dX13_weigh_25 : decode cX13_weigh 25 = .ok (.iaload, 1) := by decide +kernel
theorem dX13_weigh_26 : decode cX13_weigh 26 = .ok (.aload_n 0, 1) := by decide +kernel
theorem dX13_weigh_27 : decode cX13_weigh 27 = .ok (.getfield 122, 3) := by decide +kernel
theorem dX13_weigh_30 : decode cX13_weigh 30 = .ok (.iload_n 1, 1) := by decide +kernel
theorem dX13_weigh_31 : decode cX13_weigh 31 = .ok (.iaload, 1) := by decide +kernel
theorem dX13_weigh_32 : decode cX13_weigh 32 = .ok (.invokestatic 492, 3) := by decide +kernel
theorem dX13_weigh_35 : decode cX13_weigh 35 = .ok (.if_icmp .le 22, 3) := by decide +kernel
set_option maxHeartbeats 4000000 in
set_option maxRecDepth 100000 in
theorem k_X13_weigh (l : Launch) (D : va_G) (cy : Nat → ClassId) (ld ad : Nat → Nat) (am : Nat) (hD : mz_D ad am) (Fa : Nat → Int32) (Ga : Nat → Int64) (Ra : Nat → Nat → Int32) (Sa : Nat → Nat → Int64) (p1 : Int32) (p2 : Int32) (hIF : mz_IF true Fa) (hIG : mz_IG Ga) (hIR : mz_IR [] true Ra) (hp_0 : 0 ≤ p1.toInt) (hp_1 : p1.toInt ≤ 4) : Met l yX13_weigh (wl yX13_weigh cX13_weigh 3 none) ({ frames := 4, cells := 0, slots := 0, locals := 210 }) (mz_p D cy ld ad am Fa Ga Ra Sa [.ref am, .int p1, .int p2]) (mz_w D cy ad am (fun F G R S => mz_IF true F ∧ mz_IG G ∧ mz_IR [] true R ∧ (∀ k : Nat, k ∉ ([] : List Nat) → F k = Fa k) ∧ (∀ k : Nat, k ∉ ([44, 45] : List Nat) → R k = Ra k) ∧ (∀ k : Nat, k ∉ ([] : List Nat) → G k = Ga k))) 0 0 (mz_W ad am) := by
  refine mz_met (y := yX13_weigh) (cc := cX13_weigh) (maxL := 3) (ret := none) (av := [.ref am, .int p1, .int p2]) _ (by decide) (Nat.le_of_ble_eq_true rfl) ?_
  intro p e s m args below meth c hx hb hr hml hts htl hown hlocks hK H locs hM hS ls hl
  have hown : s.vm.findClass RX13 = some m.cls := hown
  have hl : lv_has ls 3 [(0, .ref am), (1, .int p1), (2, .int p2)] := hl
  have hr_p1 := tk_rng p1
  have hr_p2 := tk_rng p2
  refine lv_aload_n hx hb dX13_weigh_0 rfl (lv_at hl 0 rfl) ?_
  refine mz_getR hx hb htl hown hK hM 45 (Nat.le_of_ble_eq_true rfl) (Nat.le_of_ble_eq_true rfl) (htl _ mw_229) (fun _ h9 => h9) dX13_weigh_1 ?_
  refine lv_iload_n hx hb dX13_weigh_4 rfl (lv_at hl 1 rfl) ?_
  refine mz_iald hx hb hK hM 45 (Nat.le_of_ble_eq_true rfl) rfl (nn := 5) rfl rfl (by omega) (by omega) dX13_weigh_5 (fun v1 e_v1 => ?_)
  have hq_v1 := tk_rng v1
  refine lv_iconst (v := (-1)) hx hb dX13_weigh_6 (by decide) ?_
  refine lv_icmp_eq (tgt := 38) hx hb dX13_weigh_7 (by decide) (fun c9 => ?_) (fun c9 => ?_)
  · have hc2 : v1.toInt = (-1) := (fi_eq rfl (show ((-1) : Int32).toInt = (-1) by decide)).mp c9
    refine lv_aload_n hx hb dX13_weigh_38 rfl (lv_at hl 0 rfl) ?_
    refine mz_getR hx hb htl hown hK hM 44 (Nat.le_of_ble_eq_true rfl) (Nat.le_of_ble_eq_true rfl) (htl _ mw_228) (fun _ h9 => h9) dX13_weigh_39 ?_
    refine lv_iload_n hx hb dX13_weigh_42 rfl (lv_at hl 1 rfl) ?_
    refine lv_iload_n hx hb dX13_weigh_43 rfl (lv_at hl 2 rfl) ?_
    refine mz_iast (x := p2) hx hb hK hD hM hS 44 (Nat.le_of_ble_eq_true rfl) rfl (nn := 5) rfl rfl (by omega) (by omega) dX13_weigh_44 (fun H locs R hM hS hw9 hj9 => ?_)
    have hIR := hIR.put hw9 hj9 trivial
    have hRR := mz_frp (K := [44, 45]) (Fa := Ra) hj9 (fun _ _ => rfl) (by decide)
    have e_v1 : R 45 (p1 : Int32).toNatClampNeg = _ := (congrFun (hj9 45 (by decide)) _).trans e_v1
    refine lv_aload_n hx hb dX13_weigh_45 rfl (lv_at hl 0 rfl) ?_
    refine mz_getR hx hb htl hown hK hM 45 (Nat.le_of_ble_eq_true rfl) (Nat.le_of_ble_eq_true rfl) (htl _ mw_229) (fun _ h9 => h9) dX13_weigh_46 ?_
    refine lv_iload_n hx hb dX13_weigh_49 rfl (lv_at hl 1 rfl) ?_
    refine lv_aload_n hx hb dX13_weigh_50 rfl (lv_at hl 0 rfl) ?_
    refine mz_getR hx hb htl hown hK hM 43 (Nat.le_of_ble_eq_true rfl) (Nat.le_of_ble_eq_true rfl) (htl _ mw_227) (fun _ h9 => h9) dX13_weigh_51 ?_
    refine lv_iload_n hx hb dX13_weigh_54 rfl (lv_at hl 1 rfl) ?_
    refine mz_iald hx hb hK hM 43 (Nat.le_of_ble_eq_true rfl) rfl (nn := 5) rfl rfl (by omega) (by omega) dX13_weigh_55 (fun v4 e_v4 => ?_)
    have hq_v4 := tk_rng v4
    refine mz_iast (x := v4) hx hb hK hD hM hS 45 (Nat.le_of_ble_eq_true rfl) rfl (nn := 5) rfl rfl (by omega) (by omega) dX13_weigh_56 (fun H locs R hM hS hw9 hj9 => ?_)
    have hIR := hIR.put hw9 hj9 trivial
    have hRR := mz_frp (K := [44, 45]) (Fa := Ra) hj9 hRR (by decide)
    have e_v4 : R 43 (p1 : Int32).toNatClampNeg = _ := (congrFun (hj9 43 (by decide)) _).trans e_v4
    exact mz_vret hx hb hr hlocks ⟨hIF, hIG, hIR, (fun _ _ => rfl), hRR, (fun _ _ => rfl)⟩ hM hS dX13_weigh_57
  · have hc2 : ¬ (v1.toInt = (-1)) := fun h9 => c9 ((fi_eq rfl (show ((-1) : Int32).toInt = (-1) by decide)).mpr h9)
    refine lv_iload_n hx hb dX13_weigh_10 rfl (lv_at hl 2 rfl) ?_
    refine lv_aload_n hx hb dX13_weigh_11 rfl (lv_at hl 0 rfl) ?_
    refine mz_getR hx hb htl hown hK hM 46 (Nat.le_of_ble_eq_true rfl) (Nat.le_of_ble_eq_true rfl) (htl _ mw_230) (fun _ h9 => h9) dX13_weigh_12 ?_
    refine lv_iload_n hx hb dX13_weigh_15 rfl (lv_at hl 1 rfl) ?_
    refine mz_iald hx hb hK hM 46 (Nat.le_of_ble_eq_true rfl) rfl (nn := 5) rfl rfl (by omega) (by omega) dX13_weigh_16 (fun v6 e_v6 => ?_)
    have hq_v6 := tk_rng v6
    refine mz_Sj (As := [.int p2, .int v6]) (rest := []) ⟨hx, hb, hml, hown, hts⟩ hK hM hS (k_X13_seenBy l D cy ld ad am hD _ _ _ _ p2 v6) ⟨callB_of 2 hts (wl_in mw_1322) rfl rfl rfl (htl _ mw_5) (htl _ mw_1320) hd_yX13_seenBy ⟨(Nat.le_of_ble_eq_true rfl), (Nat.le_of_ble_eq_true rfl)⟩, htl _ mw_1321⟩ rfl hl.1 rfl (Nat.le_of_ble_eq_true rfl) dX13_weigh_17 ⟨(Nat.le_of_ble_eq_true rfl), (Nat.le_of_ble_eq_true rfl)⟩ (fun v10 H locs hpo hM hS => ?_)
    have hq_v10 := tk_rng v10
    refine lv_aload_n hx hb dX13_weigh_20 rfl (lv_at hl 0 rfl) ?_
    refine mz_getR hx hb htl hown hK hM 44 (Nat.le_of_ble_eq_true rfl) (Nat.le_of_ble_eq_true rfl) (htl _ mw_228) (fun _ h9 => h9) dX13_weigh_21 ?_
    refine lv_iload_n hx hb dX13_weigh_24 rfl (lv_at hl 1 rfl) ?_
    refine mz_iald hx hb hK hM 44 (Nat.le_of_ble_eq_true rfl) rfl (nn := 5) rfl rfl (by omega) (by omega) dX13_weigh_25 (fun v12 e_v12 => ?_)
    have hq_v12 := tk_rng v12
    refine lv_aload_n hx hb dX13_weigh_26 rfl (lv_at hl 0 rfl) ?_
    refine mz_getR hx hb htl hown hK hM 46 (Nat.le_of_ble_eq_true rfl) (Nat.le_of_ble_eq_true rfl) (htl _ mw_230) (fun _ h9 => h9) dX13_weigh_27 ?_
    refine lv_iload_n hx hb dX13_weigh_30 rfl (lv_at hl 1 rfl) ?_
    refine mz_iald hx hb hK hM 46 (Nat.le_of_ble_eq_true rfl) rfl (nn := 5) rfl rfl (by omega) (by omega) dX13_weigh_31 (fun v9 e9 => ?_)
    refine fx_ti (v := v6) (e9.symm.trans e_v6) ?_
    refine mz_Sj (As := [.int v12, .int v6]) (rest := [.int v10]) ⟨hx, hb, hml, hown, hts⟩ hK hM hS (k_X13_seenBy l D cy ld ad am hD _ _ _ _ v12 v6) ⟨callB_of 2 hts (wl_in mw_1322) rfl rfl rfl (htl _ mw_5) (htl _ mw_1320) hd_yX13_seenBy ⟨(Nat.le_of_ble_eq_true rfl), (Nat.le_of_ble_eq_true rfl)⟩, htl _ mw_1321⟩ rfl hl.1 rfl (Nat.le_of_ble_eq_true rfl) dX13_weigh_32 ⟨(Nat.le_of_ble_eq_true rfl), (Nat.le_of_ble_eq_true rfl)⟩ (fun v13 H locs hpo hM hS => ?_)
    have hq_v13 := tk_rng v13
    refine lv_icmp_le (tgt := 57) hx hb dX13_weigh_35 (by decide) (fun c9 => ?_) (fun c9 => ?_)
    · have hc15 : v10.toInt ≤ v13.toInt := (fi_le rfl rfl).mp c9
      exact mz_vret hx hb hr hlocks ⟨hIF, hIG, hIR, (fun _ _ => rfl), (fun _ _ => rfl), (fun _ _ => rfl)⟩ hM hS dX13_weigh_57
    · have hc15 : ¬ (v10.toInt ≤ v13.toInt) := fun h9 => c9 ((fi_le rfl rfl).mpr h9)
      refine lv_aload_n hx hb dX13_weigh_38 rfl (lv_at hl 0 rfl) ?_
      refine mz_getR hx hb htl hown hK hM 44 (Nat.le_of_ble_eq_true rfl) (Nat.le_of_ble_eq_true rfl) (htl _ mw_228) (fun _ h9 => h9) dX13_weigh_39 ?_
      refine lv_iload_n hx hb dX13_weigh_42 rfl (lv_at hl 1 rfl) ?_
      refine lv_iload_n hx hb dX13_weigh_43 rfl (lv_at hl 2 rfl) ?_
      refine mz_iast (x := p2) hx hb hK hD hM hS 44 (Nat.le_of_ble_eq_true rfl) rfl (nn := 5) rfl rfl (by omega) (by omega) dX13_weigh_44 (fun H locs R hM hS hw9 hj9 => ?_)
      have hIR := hIR.put hw9 hj9 trivial
      have hRR := mz_frp (K := [44, 45]) (Fa := Ra) hj9 (fun _ _ => rfl) (by decide)
      have e_v1 : R 45 (p1 : Int32).toNatClampNeg = _ := (congrFun (hj9 45 (by decide)) _).trans e_v1
      have e_v6 : R 46 (p1 : Int32).toNatClampNeg = _ := (congrFun (hj9 46 (by decide)) _).trans e_v6
      refine lv_aload_n hx hb dX13_weigh_45 rfl (lv_at hl 0 rfl) ?_
      refine mz_getR hx hb htl hown hK hM 45 (Nat.le_of_ble_eq_true rfl) (Nat.le_of_ble_eq_true rfl) (htl _ mw_229) (fun _ h9 => h9) dX13_weigh_46 ?_
      refine lv_iload_n hx hb dX13_weigh_49 rfl (lv_at hl 1 rfl) ?_
      refine lv_aload_n hx hb dX13_weigh_50 rfl (lv_at hl 0 rfl) ?_
      refine mz_getR hx hb htl hown hK hM 43 (Nat.le_of_ble_eq_true rfl) (Nat.le_of_ble_eq_true rfl) (htl _ mw_227) (fun _ h9 => h9) dX13_weigh_51 ?_
      refine lv_iload_n hx hb dX13_weigh_54 rfl (lv_at hl 1 rfl) ?_
      refine mz_iald hx hb hK hM 43 (Nat.le_of_ble_eq_true rfl) rfl (nn := 5) rfl rfl (by omega) (by omega) dX13_weigh_55 (fun v17 e_v17 => ?_)
      have hq_v17 := tk_rng v17
      refine mz_iast (x := v17) hx hb hK hD hM hS 45 (Nat.le_of_ble_eq_true rfl) rfl (nn := 5) rfl rfl (by omega) (by omega) dX13_weigh_56 (fun H locs R hM hS hw9 hj9 => ?_)
      have hIR := hIR.put hw9 hj9 trivial
      have hRR := mz_frp (K := [44, 45]) (Fa := Ra) hj9 hRR (by decide)
      have e_v6 : R 46 (p1 : Int32).toNatClampNeg = _ := (congrFun (hj9 46 (by decide)) _).trans e_v6
      have e_v17 : R 43 (p1 : Int32).toNatClampNeg = _ := (congrFun (hj9 43 (by decide)) _).trans e_v17
      exact mz_vret hx hb hr hlocks ⟨hIF, hIG, hIR, (fun _ _ => rfl), hRR, (fun _ _ => rfl)⟩ hM hS dX13_weigh_57
end
