theorem dX13_openLevel_0 : decode cX13_openLevel 0 = .ok (.aload_n 0, 1) := by decide +kernel
theorem dX13_openLevel_1 : decode cX13_openLevel 1 = .ok (.getfield 113, 3) := by decide +kernel
theorem dX13_openLevel_4 : decode cX13_openLevel 4 = .ok (.iload_n 1, 1) := by decide +kernel
theorem dX13_openLevel_5 : decode cX13_openLevel 5 = .ok (.iconst (-1), 1) := by decide +kernel
theorem dX13_openLevel_6 : decode cX13_openLevel 6 = .ok (.iastore, 1) := by decide +kernel
theorem dX13_openLevel_7 : decode cX13_openLevel 7 = .ok (.aload_n 0, 1) := by decide +kernel
theorem dX13_openLevel_8 : decode cX13_openLevel 8 = .ok (.getfield 116, 3) := by decide +kernel
theorem dX13_openLevel_11 : decode cX13_openLevel 11 = .ok (.iload_n 1, 1) := by decide +kernel
theorem dX13_openLevel_12 : decode cX13_openLevel 12 = .ok (.iconst 0, 1) := by decide +kernel
theorem dX13_openLevel_13 : decode cX13_openLevel 13 = .ok (.iastore, 1) := by decide +kernel
theorem dX13_openLevel_14 : decode cX13_openLevel 14 = .ok (.aload_n 0, 1) := by decide +kernel
theorem dX13_openLevel_15 : decode cX13_openLevel 15 = .ok (.getfield 119, 3) := by decide +kernel
theorem dX13_openLevel_18 : decode cX13_openLevel 18 = .ok (.iload_n 1, 1) := by decide +kernel
theorem dX13_openLevel_19 : decode cX13_openLevel 19 = .ok (.iconst (-1), 1) := by decide +kernel
theorem dX13_openLevel_20 : decode cX13_openLevel 20 = .ok (.iastore, 1) := by decide +kernel
theorem dX13_openLevel_21 : decode cX13_openLevel 21 = .ok (.aload_n 0, 1) := by decide +kernel
theorem dX13_openLevel_22 : decode cX13_openLevel 22 = .ok (.getfield 122, 3) := by decide +kernel
theorem dX13_openLevel_25 : decode cX13_openLevel 25 = .ok (.iload_n 1, 1) := by decide +kernel
theorem dX13_openLevel_26 : decode cX13_openLevel 26 = .ok (.aload_n 0, 1) := by decide +kernel
theorem dX13_openLevel_27 : decode cX13_openLevel 27 = .ok (.iconst 4, 1) := by decide +kernel
theorem dX13_openLevel_28 : decode cX13_openLevel 28 = .ok (.invokevirtual 194, 3) := by decide +kernel
theorem dX13_openLevel_31 : decode cX13_openLevel 31 = .ok (.iastore, 1) := by decide +kernel
theorem dX13_openLevel_32 : decode cX13_openLevel 32 = .ok (.aload_n 0, 1) := by decide +kernel
theorem dX13_openLevel_33 : decode cX13_openLevel 33 = .ok (.bipush 16, 2) := by decide +kernel
theorem dX13_openLevel_35 : decode cX13_openLevel 35 = .ok (.iload_n 1, 1) := by decide +kernel
theorem dX13_openLevel_36 : decode cX13_openLevel 36 = .ok (.iadd, 1) := by decide +kernel
theorem dX13_openLevel_37 : decode cX13_openLevel 37 = .ok (.invokevirtual 179, 3) := by decide +kernel
theorem dX13_openLevel_40 : decode cX13_openLevel 40 = .ok (.return_, 1) := by decide +kernel
set_option maxHeartbeats 4000000 in
set_option maxRecDepth 100000 in
theorem k_X13_openLevel (l : Launch) (D : va_G) (cy : Nat → ClassId) (ld ad : Nat → Nat) (am : Nat) (hD : mz_D ad am) (Fa : Nat → Int32) (Ga : Nat → Int64) (Ra : Nat → Nat → Int32) (Sa : Nat → Nat → Int64) (p1 : Int32) (hIF : mz_IF true Fa) (hIG : mz_IG Ga) (hIR : mz_IR [] true Ra) (hp_0 : 0 ≤ p1.toInt) (hp_1 : p1.toInt ≤ 4) : Met l yX13_openLevel (wl yX13_openLevel cX13_openLevel 2 none) ({ frames := 4, cells := 0, slots := 0, locals := 210 }) (mz_p D cy ld ad am Fa Ga Ra Sa [.ref am, .int p1]) (mz_w D cy ad am (fun F G R S => mz_IF true F ∧ mz_IG G ∧ mz_IR [] true R ∧ (∀ k : Nat, k ∉ ([] : List Nat) → F k = Fa k) ∧ (∀ k : Nat, k ∉ ([6, 43, 44, 45, 46] : List Nat) → R k = Ra k) ∧ (∀ k : Nat, k ∉ ([] : List Nat) → G k = Ga k))) 0 0 (mz_W ad am) := by
  refine mz_met (y := yX13_openLevel) (cc := cX13_openLevel) (maxL := 2) (ret := none) (av := [.ref am, .int p1]) _ (by decide) (Nat.le_of_ble_eq_true rfl) ?_
  intro p e s m args below meth c hx hb hr hml hts htl hown hlocks hK H locs hM hS ls hl
  have hown : s.vm.findClass RX13 = some m.cls := hown
  have hl : lv_has ls 2 [(0, .ref am), (1, .int p1)] := hl
  have hr_p1 := tk_rng p1
  refine lv_aload_n hx hb dX13_openLevel_0 rfl (lv_at hl 0 rfl) ?_
  refine mz_getR hx hb htl hown hK hM 43 (Nat.le_of_ble_eq_true rfl) (Nat.le_of_ble_eq_true rfl) (htl _ mw_227) (fun _ h9 => h9) dX13_openLevel_1 ?_
  refine lv_iload_n hx hb dX13_openLevel_4 rfl (lv_at hl 1 rfl) ?_
  refine lv_iconst (v := (-1)) hx hb dX13_openLevel_5 (by decide) ?_
  have hk_m1 : ((-1) : Int32).toInt = (-1) := by decide
  refine mz_iast (x := (-1)) hx hb hK hD hM hS 43 (Nat.le_of_ble_eq_true rfl) rfl (nn := 5) rfl rfl (by omega) (by omega) dX13_openLevel_6 (fun H locs R hM hS hw9 hj9 => ?_)
  have hIR := hIR.put hw9 hj9 trivial
  have hRR := mz_frp (K := [6, 43, 44, 45, 46]) (Fa := Ra) hj9 (fun _ _ => rfl) (by decide)
  refine lv_aload_n hx hb dX13_openLevel_7 rfl (lv_at hl 0 rfl) ?_
  refine mz_getR hx hb htl hown hK hM 44 (Nat.le_of_ble_eq_true rfl) (Nat.le_of_ble_eq_true rfl) (htl _ mw_228) (fun _ h9 => h9) dX13_openLevel_8 ?_
  refine lv_iload_n hx hb dX13_openLevel_11 rfl (lv_at hl 1 rfl) ?_
  refine lv_iconst (v := 0) hx hb dX13_openLevel_12 (by decide) ?_
  have hk_0 : (0 : Int32).toInt = 0 := by decide
  refine mz_iast (x := 0) hx hb hK hD hM hS 44 (Nat.le_of_ble_eq_true rfl) rfl (nn := 5) rfl rfl (by omega) (by omega) dX13_openLevel_13 (fun H locs R hM hS hw9 hj9 => ?_)
  have hIR := hIR.put hw9 hj9 trivial
  have hRR := mz_frp (K := [6, 43, 44, 45, 46]) (Fa := Ra) hj9 hRR (by decide)
  refine lv_aload_n hx hb dX13_openLevel_14 rfl (lv_at hl 0 rfl) ?_
  refine mz_getR hx hb htl hown hK hM 45 (Nat.le_of_ble_eq_true rfl) (Nat.le_of_ble_eq_true rfl) (htl _ mw_229) (fun _ h9 => h9) dX13_openLevel_15 ?_
  refine lv_iload_n hx hb dX13_openLevel_18 rfl (lv_at hl 1 rfl) ?_
  refine lv_iconst (v := (-1)) hx hb dX13_openLevel_19 (by decide) ?_
  have hk_m1 : ((-1) : Int32).toInt = (-1) := by decide
  refine mz_iast (x := (-1)) hx hb hK hD hM hS 45 (Nat.le_of_ble_eq_true rfl) rfl (nn := 5) rfl rfl (by omega) (by omega) dX13_openLevel_20 (fun H locs R hM hS hw9 hj9 => ?_)
  have hIR := hIR.put hw9 hj9 trivial
  have hRR := mz_frp (K := [6, 43, 44, 45, 46]) (Fa := Ra) hj9 hRR (by decide)
  refine lv_aload_n hx hb dX13_openLevel_21 rfl (lv_at hl 0 rfl) ?_
  refine mz_getR hx hb htl hown hK hM 46 (Nat.le_of_ble_eq_true rfl) (Nat.le_of_ble_eq_true rfl) (htl _ mw_230) (fun _ h9 => h9) dX13_openLevel_22 ?_
  refine lv_iload_n hx hb dX13_openLevel_25 rfl (lv_at hl 1 rfl) ?_
  refine lv_aload_n hx hb dX13_openLevel_26 rfl (lv_at hl 0 rfl) ?_
  refine lv_iconst (v := 4) hx hb dX13_openLevel_27 (by decide) ?_
  obtain ⟨v5, hf4⟩ : ∃ z : Int32, R 3 16 = z := ⟨_, rfl⟩
  have hq_v5 := tk_rng v5
  have hr_v5 : (-1) ≤ v5.toInt ∧ v5.toInt ≤ 7 := by have h9 := hIR.d; unfold dO at h9; rw [hf4] at h9; omega
  have hk_4 : (4 : Int32).toInt = 4 := by decide
  refine mz_Vj (As := [.int 4]) (rest := [.int p1, .ref (ad 46)]) ⟨hx, hb, hml, hown, hts⟩ hK hM hS (k_X13_inDuel_4 l D cy ld ad am hD _ _ _ _ v5 hf4) ⟨callB_of 1 hts (wl_in mw_1046) rfl rfl rfl (htl _ mw_5) (htl _ mw_1043) hd_yX13_inDuel ⟨(Nat.le_of_ble_eq_true rfl), (Nat.le_of_ble_eq_true rfl)⟩, htl _ mw_1044, htl _ mw_1045⟩ rfl hl.1 rfl (Nat.le_of_ble_eq_true rfl) dX13_openLevel_28 ⟨(Nat.le_of_ble_eq_true rfl), (Nat.le_of_ble_eq_true rfl)⟩ (fun v6 H locs hpo hM hS => ?_)
  have hpo10 := hpo
  have hq_v6 := tk_rng v6
  refine mz_iast (x := v6) hx hb hK hD hM hS 46 (Nat.le_of_ble_eq_true rfl) rfl (nn := 5) rfl rfl (by omega) (by omega) dX13_openLevel_31 (fun H locs R hM hS hw9 hj9 => ?_)
  have hIR := hIR.put hw9 hj9 trivial
  have hRR := mz_frp (K := [6, 43, 44, 45, 46]) (Fa := Ra) hj9 hRR (by decide)
  have hf4 : R 3 16 = _ := (congrFun (hj9 3 (by decide)) 16).trans hf4
  refine lv_aload_n hx hb dX13_openLevel_32 rfl (lv_at hl 0 rfl) ?_
  refine lv_bipush (v := 16) hx hb dX13_openLevel_33 (by decide) ?_
  refine lv_iload_n hx hb dX13_openLevel_35 rfl (lv_at hl 1 rfl) ?_
  refine lv_iadd hx hb dX13_openLevel_36 ?_
  refine tk_add (show (16 : Int32).toInt = 16 by decide) rfl (by omega) (by omega) (fun v13 h_v13 => ?_)
  refine mz_Vv (As := [.int v13]) (rest := []) ⟨hx, hb, hml, hown, hts⟩ hK hM hS (k_X13_keepAll l D cy ld ad am hD _ _ _ _ v13 hIF hIG hIR (by omega) (by omega)) ⟨callB_of 1 hts (wl_in mw_1033) rfl rfl rfl (htl _ mw_5) (htl _ mw_1030) hd_yX13_keepAll ⟨(Nat.le_of_ble_eq_true rfl), (Nat.le_of_ble_eq_true rfl)⟩, htl _ mw_1031, htl _ mw_1032⟩ rfl hl.1 rfl (Nat.le_of_ble_eq_true rfl) dX13_openLevel_37 ⟨(Nat.le_of_ble_eq_true rfl), (Nat.le_of_ble_eq_true rfl)⟩ (fun H locs F G R S hpo hM hS => ?_)
  obtain ⟨hIF, hIG, hIR, hfr9, hrr9, hgr9⟩ := hpo
  have hFF := mz_fr (K := []) (Fa := Fa) hfr9 (fun _ _ => rfl) (by decide)
  have hRR := mz_fr (K := [6, 43, 44, 45, 46]) (Fa := Ra) hrr9 hRR (by decide)
  have hGG := mz_fr (K := []) (Fa := Ga) hgr9 (fun _ _ => rfl) (by decide)
  have hf4 : R 3 16 = _ := (congrFun (hrr9 3 (by decide)) 16).trans hf4
  exact mz_vret hx hb hr hlocks ⟨hIF, hIG, hIR, hFF, hRR, hGG⟩ hM hS dX13_openLevel_40
