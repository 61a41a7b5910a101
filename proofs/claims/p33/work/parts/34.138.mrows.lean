set_option maxHeartbeats 4000000 in
set_option maxRecDepth 100000 in
theorem k_X13_openLevel_x (l : Launch) (D : va_G) (cy : Nat → ClassId) (ld ad : Nat → Nat) (am : Nat) (hD : mz_D ad am) (Fa : Nat → Int32) (Ga : Nat → Int64) (Ra : Nat → Nat → Int32) (Sa : Nat → Nat → Int64) (p1 : Int32) (hIF : mz_IF true Fa) (hIG : mz_IG Ga) (hIR : mz_IR [] true Ra) (hp_0 : 0 ≤ p1.toInt) (hp_1 : p1.toInt ≤ 4) : Met l yX13_openLevel (wl yX13_openLevel cX13_openLevel 2 none) ({ frames := 4, cells := 0, slots := 0, locals := 210 }) (mz_p D cy ld ad am Fa Ga Ra Sa [.ref am, .int p1]) (mz_w D cy ad am (fun F G R S => mz_IF true F ∧ mz_IG G ∧ mz_IR [] true R ∧ (∀ k : Nat, k ∉ ([] : List Nat) → F k = Fa k) ∧ (∀ k : Nat, k ∉ ([6, 43, 44, 45, 46] : List Nat) → R k = Ra k) ∧ (∀ k : Nat, k ∉ ([] : List Nat) → G k = Ga k) ∧ R 43 = upd (Ra 43) p1.toInt.toNat (-1) ∧ R 6 = va_cpy (Ra 3) (Ra 6) 6 (52 * (16 + p1.toInt.toNat)) 52)) 0 0 (mz_W ad am) := by
  refine mz_met (y := yX13_openLevel) (cc := cX13_openLevel) (maxL := 2) (ret := none) (av := [.ref am, .int p1]) _ (by decide) (Nat.le_of_ble_eq_true rfl) ?_
  intro p e s m args below meth c hx hb hr hml hts htl hown hlocks hK H locs hM hS ls hl
  have hown : s.vm.findClass RX13 = some m.cls := hown
  have hl : lv_has ls 2 [(0, .ref am), (1, .int p1)] := hl
  have hr_p1 := tk_rng p1
  refine lv_aload_n hx hb dX13_openLevel_0 rfl (lv_at hl 0 rfl) ?_
  refine mz_getR hx hb htl hown hK hM 43 (Nat.le_of_ble_eq_true rfl) (Nat.le_of_ble_eq_true rfl) (htl _ mw_227) (fun _ h9 => h9) dX13_openLevel_1 ?_
  refine lv_iload_n hx hb dX13_openLevel_4 rfl (lv_at hl 1 rfl) ?_
  refine lv_iconst (v := (-1)) hx hb dX13_openLevel_5 (by decide) ?_
  have hk_m1 : ((-1) : Int32).toInt = (-1) := by decide
  refine mz_iast (x := (-1)) hx hb hK hD hM hS 43 (Nat.le_of_ble_eq_true rfl) rfl (nn := 5) rfl rfl (by omega) (by omega) dX13_openLevel_6 (fun H locs R hM hS hw9 hj9 => ?_)
  have hIR := hIR.put hw9 hj9 trivial
  have hRR := mz_frp (K := [6, 43, 44, 45, 46]) (Fa := Ra) hj9 (fun _ _ => rfl) (by decide)
  have hre_3 : R 3 = Ra 3 := (hj9 3 (by decide)).trans (rfl : Ra 3 = Ra 3)
  have hre_6 : R 6 = Ra 6 := (hj9 6 (by decide)).trans (rfl : Ra 6 = Ra 6)
  have hre_43 : R 43 = upd (Ra 43) (p1 : Int32).toNatClampNeg (-1) := hw9.trans (congrArg (fun f => upd f (p1 : Int32).toNatClampNeg (-1)) (rfl : Ra 43 = Ra 43))
  refine lv_aload_n hx hb dX13_openLevel_7 rfl (lv_at hl 0 rfl) ?_
  refine mz_getR hx hb htl hown hK hM 44 (Nat.le_of_ble_eq_true rfl) (Nat.le_of_ble_eq_true rfl) (htl _ mw_228) (fun _ h9 => h9) dX13_openLevel_8 ?_
  refine lv_iload_n hx hb dX13_openLevel_11 rfl (lv_at hl 1 rfl) ?_
  refine lv_iconst (v := 0) hx hb dX13_openLevel_12 (by decide) ?_
  have hk_0 : (0 : Int32).toInt = 0 := by decide
  refine mz_iast (x := 0) hx hb hK hD hM hS 44 (Nat.le_of_ble_eq_true rfl) rfl (nn := 5) rfl rfl (by omega) (by omega) dX13_openLevel_13 (fun H locs R hM hS hw9 hj9 => ?_)
  have hIR := hIR.put hw9 hj9 trivial
  have hRR := mz_frp (K := [6, 43, 44, 45, 46]) (Fa := Ra) hj9 hRR (by decide)
  have hre_3 : R 3 = Ra 3 := (hj9 3 (by decide)).trans hre_3
  have hre_6 : R 6 = Ra 6 := (hj9 6 (by decide)).trans hre_6
  have hre_43 : R 43 = upd (Ra 43) (p1 : Int32).toNatClampNeg (-1) := (hj9 43 (by decide)).trans hre_43
  refine lv_aload_n hx hb dX13_openLevel_14 rfl (lv_at hl 0 rfl) ?_
  refine mz_getR hx hb htl hown hK hM 45 (Nat.le_of_ble_eq_true rfl) (Nat.le_of_ble_eq_true rfl) (htl _ mw_229) (fun _ h9 => h9) dX13_openLevel_15 ?_
  refine lv_iload_n hx hb dX13_openLevel_18 rfl (lv_at hl 1 rfl) ?_
  refine lv_iconst (v := (-1)) hx hb dX13_openLevel_19 (by decide) ?_
  have hk_m1 : ((-1) : Int32).toInt = (-1) := by decide
  refine mz_iast (x := (-1)) hx hb hK hD hM hS 45 (Nat.le_of_ble_eq_true rfl) rfl (nn := 5) rfl rfl (by omega) (by omega) dX13_openLevel_20 (fun H locs R hM hS hw9 hj9 => ?_)
  have hIR := hIR.put hw9 hj9 trivial
  have hRR := mz_frp (K := [6, 43, 44, 45, 46]) (Fa := Ra) hj9 hRR (by decide)
  have hre_3 : R 3 = Ra 3 := (hj9 3 (by decide)).trans hre_3
  have hre_6 : R 6 = Ra 6 := (hj9 6 (by decide)).trans hre_6
  have hre_43 : R 43 = upd (Ra 43) (p1 : Int32).toNatClampNeg (-1) := (hj9 43 (by decide)).trans hre_43
  refine lv_aload_n hx hb dX13_openLevel_21 rfl (lv_at hl 0 rfl) ?_
  refine mz_getR hx hb htl hown hK hM 46 (Nat.le_of_ble_eq_true rfl) (Nat.le_of_ble_eq_true rfl) (htl _ mw_230) (fun _ h9 => h9) dX13_openLevel_22 ?_
  refine lv_iload_n hx hb dX13_openLevel_25 rfl (lv_at hl 1 rfl) ?_
  refine lv_aload_n hx hb dX13_openLevel_26 rfl (lv_at hl 0 rfl) ?_
  refine lv_iconst (v := 4) hx hb dX13_openLevel_27 (by decide) ?_
  have hb3 := hre_3
  have hb6 := hre_6
  obtain ⟨v5, hf4⟩ : ∃ z : Int32, R 3 16 = z := ⟨_, rfl⟩
  have hq_v5 := tk_rng v5
  have hr_v5 : (-1) ≤ v5.toInt ∧ v5.toInt ≤ 7 := by have h9 := hIR.d; unfold dO at h9; rw [hf4] at h9; omega
  have hk_4 : (4 : Int32).toInt = 4 := by decide
  refine mz_Vj (As := [.int 4]) (rest := [.int p1, .ref (ad 46)]) ⟨hx, hb, hml, hown, hts⟩ hK hM hS (k_X13_inDuel_4 l D cy ld ad am hD _ _ _ _ v5 hf4) ⟨callB_of 1 hts (wl_in mw_1046) rfl rfl rfl (htl _ mw_5) (htl _ mw_1043) hd_yX13_inDuel ⟨(Nat.le_of_ble_eq_true rfl), (Nat.le_of_ble_eq_true rfl)⟩, htl _ mw_1044, htl _ mw_1045⟩ rfl hl.1 rfl (Nat.le_of_ble_eq_true rfl) dX13_openLevel_28 ⟨(Nat.le_of_ble_eq_true rfl), (Nat.le_of_ble_eq_true rfl)⟩ (fun v6 H locs hpo hM hS => ?_)
  have hpo10 := hpo
  have hq_v6 := tk_rng v6
  refine mz_iast (x := v6) hx hb hK hD hM hS 46 (Nat.le_of_ble_eq_true rfl) rfl (nn := 5) rfl rfl (by omega) (by omega) dX13_openLevel_31 (fun H locs R hM hS hw9 hj9 => ?_)
  have hIR := hIR.put hw9 hj9 trivial
  have hRR := mz_frp (K := [6, 43, 44, 45, 46]) (Fa := Ra) hj9 hRR (by decide)
  have hre_3 : R 3 = Ra 3 := (hj9 3 (by decide)).trans hre_3
  have hre_6 : R 6 = Ra 6 := (hj9 6 (by decide)).trans hre_6
  have hre_43 : R 43 = upd (Ra 43) (p1 : Int32).toNatClampNeg (-1) := (hj9 43 (by decide)).trans hre_43
  have hf4 : R 3 16 = _ := (congrFun (hj9 3 (by decide)) 16).trans hf4
  refine lv_aload_n hx hb dX13_openLevel_32 rfl (lv_at hl 0 rfl) ?_
  refine lv_bipush (v := 16) hx hb dX13_openLevel_33 (by decide) ?_
  refine lv_iload_n hx hb dX13_openLevel_35 rfl (lv_at hl 1 rfl) ?_
  refine lv_iadd hx hb dX13_openLevel_36 ?_
  refine tk_add (show (16 : Int32).toInt = 16 by decide) rfl (by omega) (by omega) (fun v13 h_v13 => ?_)
  have hb3 := hre_3
  have hb6 := hre_6
  refine mz_Vv (As := [.int v13]) (rest := []) ⟨hx, hb, hml, hown, hts⟩ hK hM hS (k_X13_keepAll_x l D cy ld ad am hD _ _ _ _ v13 hIF hIG hIR (by omega) (by omega)) ⟨callB_of 1 hts (wl_in mw_1033) rfl rfl rfl (htl _ mw_5) (htl _ mw_1030) hd_yX13_keepAll ⟨(Nat.le_of_ble_eq_true rfl), (Nat.le_of_ble_eq_true rfl)⟩, htl _ mw_1031, htl _ mw_1032⟩ rfl hl.1 rfl (Nat.le_of_ble_eq_true rfl) dX13_openLevel_37 ⟨(Nat.le_of_ble_eq_true rfl), (Nat.le_of_ble_eq_true rfl)⟩ (fun H locs F G R S hpo hM hS => ?_)
  obtain ⟨hIF, hIG, hIR, hfr9, hrr9, hgr9, hx14⟩ := hpo
  have hFF := mz_fr (K := []) (Fa := Fa) hfr9 (fun _ _ => rfl) (by decide)
  have hRR := mz_fr (K := [6, 43, 44, 45, 46]) (Fa := Ra) hrr9 hRR (by decide)
  have hGG := mz_fr (K := []) (Fa := Ga) hgr9 (fun _ _ => rfl) (by decide)
  have hre_3 : R 3 = Ra 3 := (hrr9 3 (by decide)).trans hre_3
  have hre_43 : R 43 = upd (Ra 43) (p1 : Int32).toNatClampNeg (-1) := (hrr9 43 (by decide)).trans hre_43
  have hf4 : R 3 16 = _ := (congrFun (hrr9 3 (by decide)) 16).trans hf4
  have hk6 := hx14
  rw [hb3, hb6, show v13.toInt.toNat = 16 + p1.toInt.toNat by omega] at hk6
  exact mz_vret hx hb hr hlocks ⟨hIF, hIG, hIR, hFF, hRR, hGG, (hre_43.trans rfl), hk6⟩ hM hS dX13_openLevel_40
