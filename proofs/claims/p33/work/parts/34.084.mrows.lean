theorem dX13_layDuel_0 : decode cX13_layDuel 0 = .ok (.aload_n 0, 1) := by decide +kernel
theorem dX13_layDuel_1 : decode cX13_layDuel 1 = .ok (.getfield 13, 3) := by decide +kernel
theorem dX13_layDuel_4 : decode cX13_layDuel 4 = .ok (.bipush 12, 2) := by decide +kernel
theorem dX13_layDuel_6 : decode cX13_layDuel 6 = .ok (.iload_n 1, 1) := by decide +kernel
theorem dX13_layDuel_7 : decode cX13_layDuel 7 = .ok (.iastore, 1) := by decide +kernel
theorem dX13_layDuel_8 : decode cX13_layDuel 8 = .ok (.aload_n 0, 1) := by decide +kernel
theorem dX13_layDuel_9 : decode cX13_layDuel 9 = .ok (.getfield 13, 3) := by decide +kernel
theorem dX13_layDuel_12 : decode cX13_layDuel 12 = .ok (.bipush 13, 2) := by decide +kernel
theorem dX13_layDuel_14 : decode cX13_layDuel 14 = .ok (.iload_n 2, 1) := by decide +kernel
theorem dX13_layDuel_15 : decode cX13_layDuel 15 = .ok (.iastore, 1) := by decide +kernel
theorem dX13_layDuel_16 : decode cX13_layDuel 16 = .ok (.aload_n 0, 1) := by decide +kernel
theorem dX13_layDuel_17 : decode cX13_layDuel 17 = .ok (.getfield 13, 3) := by decide +kernel
theorem dX13_layDuel_20 : decode cX13_layDuel 20 = .ok (.bipush 14, 2) := by decide +kernel
theorem dX13_layDuel_22 : decode cX13_layDuel 22 = .ok (.iload_n 3, 1) := by decide +kernel
theorem dX13_layDuel_23 : decode cX13_layDuel 23 = .ok (.iastore, 1) := by decide +kernel
theorem dX13_layDuel_24 : decode cX13_layDuel 24 = .ok (.aload_n 0, 1) := by decide +kernel
theorem dX13_layDuel_25 : decode cX13_layDuel 25 = .ok (.getfield 13, 3) := by decide +kernel
theorem dX13_layDuel_28 : decode cX13_layDuel 28 = .ok (.bipush 15, 2) := by decide +kernel
theorem dX13_layDuel_30 : decode cX13_layDuel 30 = .ok (.iconst 0, 1) := by decide +kernel
theorem dX13_layDuel_31 : decode cX13_layDuel 31 = .ok (.iastore, 1) := by decide +kernel
theorem dX13_layDuel_32 : decode cX13_layDuel 32 = .ok (.aload_n 0, 1) := by decide +kernel
theorem dX13_layDuel_33 : decode cX13_layDuel 33 = .ok (.getfield 13, 3) := by decide +kernel
theorem dX13_layDuel_36 : decode cX13_layDuel 36 = .ok (.bipush 16, 2) := by decide +kernel
theorem dX13_layDuel_38 : decode cX13_layDuel 38 = .ok (.iload_n 1, 1) := by decide +kernel
theorem dX13_layDuel_39 : decode cX13_layDuel 39 = .ok (.iastore, 1) := by decide +kernel
theorem dX13_layDuel_40 : decode cX13_layDuel 40 = .ok (.aload_n 0, 1) := by decide +kernel
theorem dX13_layDuel_41 : decode cX13_layDuel 41 = .ok (.getfield 13, 3) := by decide +kernel
theorem dX13_layDuel_44 : decode cX13_layDuel 44 = .ok (.bipush 17, 2) := by decide +kernel
theorem dX13_layDuel_46 : decode cX13_layDuel 46 = .ok (.iconst (-1), 1) := by decide +kernel
theorem dX13_layDuel_47 : decode cX13_layDuel 47 = .ok (.iastore, 1) := by decide +kernel
theorem dX13_layDuel_48 : decode cX13_layDuel 48 = .ok (.return_, 1) := by decide +kernel
set_option maxHeartbeats 4000000 in
set_option maxRecDepth 100000 in
theorem k_X13_layDuel (l : Launch) (D : va_G) (cy : Nat → ClassId) (ld ad : Nat → Nat) (am : Nat) (hD : mz_D ad am) (Fa : Nat → Int32) (Ga : Nat → Int64) (Ra : Nat → Nat → Int32) (Sa : Nat → Nat → Int64) (p1 : Int32) (p2 : Int32) (p3 : Int32) (hIF : mz_IF true Fa) (hIG : mz_IG Ga) (hIR : mz_IR [] false Ra) (hp_0 : 0 ≤ p1.toInt) (hp_1 : p1.toInt ≤ 7) (hp_2 : 0 ≤ p2.toInt) (hp_3 : p2.toInt ≤ 7) (hp_4 : (-1) ≤ p3.toInt) (hp_5 : p3.toInt ≤ 99) : Met l yX13_layDuel (wl yX13_layDuel cX13_layDuel 4 none) ({ frames := 3, cells := 0, slots := 0, locals := 140 }) (mz_p D cy ld ad am Fa Ga Ra Sa [.ref am, .int p1, .int p2, .int p3]) (mz_w D cy ad am (fun F G R S => mz_IF true F ∧ mz_IG G ∧ mz_IR [] true R ∧ (∀ k : Nat, k ∉ ([] : List Nat) → F k = Fa k) ∧ (∀ k : Nat, k ∉ ([3] : List Nat) → R k = Ra k) ∧ (∀ k : Nat, k ∉ ([] : List Nat) → G k = Ga k) ∧ rK2 (Ra 3) (R 3) ∧ R 3 12 = p1 ∧ R 3 13 = p2 ∧ R 3 15 = 0 ∧ R 3 16 = p1)) 0 0 (mz_W ad am) := by
  refine mz_met (y := yX13_layDuel) (cc := cX13_layDuel) (maxL := 4) (ret := none) (av := [.ref am, .int p1, .int p2, .int p3]) _ (by decide) (Nat.le_of_ble_eq_true rfl) ?_
  intro p e s m args below meth c hx hb hr hml hts htl hown hlocks hK H locs hM hS ls hl
  have hown : s.vm.findClass RX13 = some m.cls := hown
  have hl : lv_has ls 4 [(0, .ref am), (1, .int p1), (2, .int p2), (3, .int p3)] := hl
  have hr_p1 := tk_rng p1
  have hr_p2 := tk_rng p2
  have hr_p3 := tk_rng p3
  refine lv_aload_n hx hb dX13_layDuel_0 rfl (lv_at hl 0 rfl) ?_
  refine mz_getR hx hb htl hown hK hM 3 (Nat.le_of_ble_eq_true rfl) (Nat.le_of_ble_eq_true rfl) (htl _ mw_188) (fun _ h9 => h9) dX13_layDuel_1 ?_
  refine lv_bipush (v := 12) hx hb dX13_layDuel_4 (by decide) ?_
  refine lv_iload_n hx hb dX13_layDuel_6 rfl (lv_at hl 1 rfl) ?_
  have hk_12 : (12 : Int32).toInt = 12 := by decide
  refine mz_iast (x := p1) hx hb hK hD hM hS 3 (Nat.le_of_ble_eq_true rfl) rfl (nn := 5560) rfl (I := 12) (by decide) (by decide) (by decide) dX13_layDuel_7 (fun H locs R hM hS hw9 hj9 => ?_)
  have hIR := hIR.put hw9 hj9 (mz_r3 (hIR.at 3) (I := 12) (by decide) (by omega) (by omega) (fun h9 => by first | (cases h9; done) | omega) (by unfold mE; omega))
  have hRR := mz_frp (K := [3]) (Fa := Ra) hj9 (fun _ _ => rfl) (by decide)
  have hrel := rK2.put (I := 12) (rK2.refl rfl) hw9 (by decide) (by omega) (by omega) (by omega)
  have hf2 : R 3 12 = p1 := (congrFun hw9 12).trans pk_us
  refine lv_aload_n hx hb dX13_layDuel_8 rfl (lv_at hl 0 rfl) ?_
  refine mz_getR hx hb htl hown hK hM 3 (Nat.le_of_ble_eq_true rfl) (Nat.le_of_ble_eq_true rfl) (htl _ mw_188) (fun _ h9 => h9) dX13_layDuel_9 ?_
  refine lv_bipush (v := 13) hx hb dX13_layDuel_12 (by decide) ?_
  refine lv_iload_n hx hb dX13_layDuel_14 rfl (lv_at hl 2 rfl) ?_
  have hk_13 : (13 : Int32).toInt = 13 := by decide
  refine mz_iast (x := p2) hx hb hK hD hM hS 3 (Nat.le_of_ble_eq_true rfl) rfl (nn := 5560) rfl (I := 13) (by decide) (by decide) (by decide) dX13_layDuel_15 (fun H locs R hM hS hw9 hj9 => ?_)
  have hIR := hIR.put hw9 hj9 (mz_r3 (hIR.at 3) (I := 13) (by decide) (by omega) (by omega) (fun h9 => by first | (cases h9; done) | omega) (by unfold mE; omega))
  have hRR := mz_frp (K := [3]) (Fa := Ra) hj9 hRR (by decide)
  have hrel := rK2.put (I := 13) hrel hw9 (by decide) (by omega) (by omega) (by omega)
  have hf2 : R 3 12 = _ := (congrFun hw9 12).trans ((pk_un (by decide)).trans hf2)
  have hf4 : R 3 13 = p2 := (congrFun hw9 13).trans pk_us
  refine lv_aload_n hx hb dX13_layDuel_16 rfl (lv_at hl 0 rfl) ?_
  refine mz_getR hx hb htl hown hK hM 3 (Nat.le_of_ble_eq_true rfl) (Nat.le_of_ble_eq_true rfl) (htl _ mw_188) (fun _ h9 => h9) dX13_layDuel_17 ?_
  refine lv_bipush (v := 14) hx hb dX13_layDuel_20 (by decide) ?_
  refine lv_iload_n hx hb dX13_layDuel_22 rfl (lv_at hl 3 rfl) ?_
  have hk_14 : (14 : Int32).toInt = 14 := by decide
  refine mz_iast (x := p3) hx hb hK hD hM hS 3 (Nat.le_of_ble_eq_true rfl) rfl (nn := 5560) rfl (I := 14) (by decide) (by decide) (by decide) dX13_layDuel_23 (fun H locs R hM hS hw9 hj9 => ?_)
  have hIR := hIR.put hw9 hj9 (mz_r3 (hIR.at 3) (I := 14) (by decide) (by omega) (by omega) (fun h9 => by first | (cases h9; done) | omega) (by unfold mE; omega))
  have hRR := mz_frp (K := [3]) (Fa := Ra) hj9 hRR (by decide)
  have hrel := rK2.put (I := 14) hrel hw9 (by decide) (by omega) (by omega) (by omega)
  have hf2 : R 3 12 = _ := (congrFun hw9 12).trans ((pk_un (by decide)).trans hf2)
  have hf4 : R 3 13 = _ := (congrFun hw9 13).trans ((pk_un (by decide)).trans hf4)
  have hf6 : R 3 14 = p3 := (congrFun hw9 14).trans pk_us
  refine lv_aload_n hx hb dX13_layDuel_24 rfl (lv_at hl 0 rfl) ?_
  refine mz_getR hx hb htl hown hK hM 3 (Nat.le_of_ble_eq_true rfl) (Nat.le_of_ble_eq_true rfl) (htl _ mw_188) (fun _ h9 => h9) dX13_layDuel_25 ?_
  refine lv_bipush (v := 15) hx hb dX13_layDuel_28 (by decide) ?_
  refine lv_iconst (v := 0) hx hb dX13_layDuel_30 (by decide) ?_
  have hk_15 : (15 : Int32).toInt = 15 := by decide
  have hk_0 : (0 : Int32).toInt = 0 := by decide
  refine mz_iast (x := 0) hx hb hK hD hM hS 3 (Nat.le_of_ble_eq_true rfl) rfl (nn := 5560) rfl (I := 15) (by decide) (by decide) (by decide) dX13_layDuel_31 (fun H locs R hM hS hw9 hj9 => ?_)
  have hIR := hIR.put hw9 hj9 (mz_r3 (hIR.at 3) (I := 15) (by decide) (by omega) (by omega) (fun h9 => by first | (cases h9; done) | omega) (by unfold mE; omega))
  have hRR := mz_frp (K := [3]) (Fa := Ra) hj9 hRR (by decide)
  have hrel := rK2.put (I := 15) hrel hw9 (by decide) (by omega) (by omega) (by omega)
  have hf2 : R 3 12 = _ := (congrFun hw9 12).trans ((pk_un (by decide)).trans hf2)
  have hf4 : R 3 13 = _ := (congrFun hw9 13).trans ((pk_un (by decide)).trans hf4)
  have hf6 : R 3 14 = _ := (congrFun hw9 14).trans ((pk_un (by decide)).trans hf6)
  have hf11 : R 3 15 = 0 := (congrFun hw9 15).trans pk_us
  refine lv_aload_n hx hb dX13_layDuel_32 rfl (lv_at hl 0 rfl) ?_
  refine mz_getR hx hb htl hown hK hM 3 (Nat.le_of_ble_eq_true rfl) (Nat.le_of_ble_eq_true rfl) (htl _ mw_188) (fun _ h9 => h9) dX13_layDuel_33 ?_
  refine lv_bipush (v := 16) hx hb dX13_layDuel_36 (by decide) ?_
  refine lv_iload_n hx hb dX13_layDuel_38 rfl (lv_at hl 1 rfl) ?_
  have hk_16 : (16 : Int32).toInt = 16 := by decide
  refine mz_iast (x := p1) hx hb hK hD hM hS 3 (Nat.le_of_ble_eq_true rfl) rfl (nn := 5560) rfl (I := 16) (by decide) (by decide) (by decide) dX13_layDuel_39 (fun H locs R hM hS hw9 hj9 => ?_)
  have hIR := hIR.put hw9 hj9 (mz_r3 (hIR.at 3) (I := 16) (by decide) (by omega) (by omega) (fun h9 => by first | (cases h9; done) | omega) (by unfold mE; omega))
  have hRR := mz_frp (K := [3]) (Fa := Ra) hj9 hRR (by decide)
  have hrel := rK2.put (I := 16) hrel hw9 (by decide) (by omega) (by omega) (by omega)
  have hf2 : R 3 12 = _ := (congrFun hw9 12).trans ((pk_un (by decide)).trans hf2)
  have hf4 : R 3 13 = _ := (congrFun hw9 13).trans ((pk_un (by decide)).trans hf4)
  have hf6 : R 3 14 = _ := (congrFun hw9 14).trans ((pk_un (by decide)).trans hf6)
  have hf11 : R 3 15 = _ := (congrFun hw9 15).trans ((pk_un (by decide)).trans hf11)
  have hf13 : R 3 16 = p1 := (congrFun hw9 16).trans pk_us
  refine lv_aload_n hx hb dX13_layDuel_40 rfl (lv_at hl 0 rfl) ?_
  refine mz_getR hx hb htl hown hK hM 3 (Nat.le_of_ble_eq_true rfl) (Nat.le_of_ble_eq_true rfl) (htl _ mw_188) (fun _ h9 => h9) dX13_layDuel_41 ?_
  refine lv_bipush (v := 17) hx hb dX13_layDuel_44 (by decide) ?_
  refine lv_iconst (v := (-1)) hx hb dX13_layDuel_46 (by decide) ?_
  have hk_17 : (17 : Int32).toInt = 17 := by decide
  have hk_m1 : ((-1) : Int32).toInt = (-1) := by decide
  refine mz_iast (x := (-1)) hx hb hK hD hM hS 3 (Nat.le_of_ble_eq_true rfl) rfl (nn := 5560) rfl (I := 17) (by decide) (by decide) (by decide) dX13_layDuel_47 (fun H locs R hM hS hw9 hj9 => ?_)
  have hIR := hIR.put hw9 hj9 (mz_r3 (hIR.at 3) (I := 17) (by decide) (by omega) (by omega) (fun h9 => by first | (cases h9; done) | omega) (by unfold mE; omega))
  have hRR := mz_frp (K := [3]) (Fa := Ra) hj9 hRR (by decide)
  have hrel := rK2.put (I := 17) hrel hw9 (by decide) (by omega) (by omega) (by omega)
  have hf2 : R 3 12 = _ := (congrFun hw9 12).trans ((pk_un (by decide)).trans hf2)
  have hf4 : R 3 13 = _ := (congrFun hw9 13).trans ((pk_un (by decide)).trans hf4)
  have hf6 : R 3 14 = _ := (congrFun hw9 14).trans ((pk_un (by decide)).trans hf6)
  have hf11 : R 3 15 = _ := (congrFun hw9 15).trans ((pk_un (by decide)).trans hf11)
  have hf13 : R 3 16 = _ := (congrFun hw9 16).trans ((pk_un (by decide)).trans hf13)
  have hf15 : R 3 17 = (-1) := (congrFun hw9 17).trans pk_us
  have hk_0 : (0 : Int32).toInt = 0 := by decide
  have hIR := hIR.duel (by unfold dO; rw [hf2, show R 3 (12 + 1) = _ from hf4, show R 3 (12 + 2) = _ from hf6, show R 3 (12 + 3) = _ from hf11, show R 3 (12 + 4) = _ from hf13]; omega)
  exact mz_vret hx hb hr hlocks ⟨hIF, hIG, hIR, (fun _ _ => rfl), hRR, (fun _ _ => rfl), hrel, hf2, hf4, hf11, hf13⟩ hM hS dX13_layDuel_48
