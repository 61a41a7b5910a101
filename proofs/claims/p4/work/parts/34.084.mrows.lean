section
theorem dX13_layDuel_0 : decode cX13_layDuel 0 = .ok (.aload_n 0, 1) := by decide +kernel
theorem dX13_layDuel_1 : decode cX13_layDuel 1 = .ok (.getfield 13, 3) := by decide +kernel
theorem dX13_layDuel_4 : decode cX13_layDuel 4 = .ok (.bipush 12, 2) := by decide +kernel
theorem dX13_layDuel_6 : decode cX13_layDuel 6 = .ok (.iload_n 1, 1) := by decide +kernel
theorem dX13_layDuel_7 : decode cX13_layDuel 7 = .ok (.iastore, 1) := by decide +kernel
theorem dX13_layDuel_8 : decode cX13_layDuel 8 = .ok (.aload_n 0, 1) := by decide +kernel
theorem dX13_layDuel_9 : decode cX13_layDuel 9 = .ok (.getfield 13, 3) := by decide +kernel
theorem dX13_layDuel_12 : decode cX13_layDuel 12 = .ok (.bipush 13, 2) := by decide +kernel
theorem dX13_layDuel_14 : decode cX13_layDuel 14 = .ok (.iload_n 2, 1) := by decide +kernel
theorem dX13_layDuel_15 : decode cX13_layDuel 15 = .ok (.iastore, 1) := by decide +kernel
theorem dX13_layDuel_16 : decode cX13_layDuel 16 = .ok (.aload_n 0, 1) := by decide +kernel
theorem dX13_layDuel_17 : decode cX13_layDuel 17 = .ok (.getfield 13, 3) := by decide +kernel
theorem dX13_layDuel_20 : decode cX13_layDuel 20 = .ok (.bipush 14, 2) := by decide +kernel
theorem dX13_layDuel_22 : decode cX13_layDuel 22 = .ok (.iload_n 3, 1) := by decide +kernel
theorem dX13_layDuel_23 : decode cX13_layDuel 23 = .ok (.iastore, 1) := by decide +kernel
theorem dX13_layDuel_24 : decode cX13_layDuel 24 = .ok (.aload_n 0, 1) := by decide +kernel
theorem dX13_layDuel_25 : decode cX13_layDuel 25 = .ok (.getfield 13, 3) := by decide +kernel
theorem dX13_layDuel_28 : decode cX13_layDuel 28 = .ok (.bipush 15, 2) := by decide +kernel
theorem dX13_layDuel_30 : decode cX13_layDuel 30 = .ok (.iconst 0, 1) := by decide +kernel
theorem dX13_layDuel_31 : decode cX13_layDuel 31 = .ok (.iastore, 1) := by decide +kernel
theorem dX13_layDuel_32 : decode cX13_layDuel 32 = .ok (.aload_n 0, 1) := by decide +kernel
theorem dX13_layDuel_33 : decode cX13_layDuel 33 = .ok (.getfield 13, 3) := by decide +kernel
theorem dX13_layDuel_36 : decode cX13_layDuel 36 = .ok (.bipush 16, 2) := by decide +kernel
theorem dX13_layDuel_38 : decode cX13_layDuel 38 = .ok (.iload_n 1, 1) := by decide +kernel
theorem dX13_layDuel_39 : decode cX13_layDuel 39 = .ok (.iastore, 1) := by decide +kernel
theorem dX13_layDuel_40 : decode cX13_layDuel 40 = .ok (.aload_n 0, 1) := by decide +kernel
theorem dX13_layDuel_41 : decode cX13_layDuel 41 = .ok (.getfield 13, 3) := by decide +kernel
theorem dX13_layDuel_44 : decode cX13_layDuel 44 = .ok (.bipush 17, 2) := by decide +kernel
theorem dX13_layDuel_46 : decode cX13_layDuel 46 = .ok (.iconst (-1), 1) := by decide +kernel
theorem dX13_layDuel_47 : decode cX13_layDuel 47 = .ok (.iastore, 1) := by decide +kernel
theorem dX13_layDuel_48 : decode cX13_layDuel 48 = .ok (.return_, 1) := by decide +kernel
set_option maxHeartbeats 4000000 in
set_option maxRecDepth 100000 in
theorem k_X13_layDuel (l : Launch) (D : va_G) (cy : Nat → ClassId) (ld ad : Nat → Nat) (am : Nat) (hD : mz_D ad am) (Fa : Nat → Int32) (Ga : Nat → Int64) (Ra : Nat → Nat → Int32) (Sa : Nat → Nat → Int64) (p1 : Int32) (p2 : Int32) (p3 : Int32) (hIF : mz_IF true Fa) (hIG : mz_IG Ga) (hIR : mz_IR [] false Ra) (hp_0 : 0 ≤ p1.toInt) (hp_1 : p1.toInt ≤ 7) (hp_2 : 0 ≤ p2.toInt) (hp_3 : p2.toInt ≤ 7) (hp_4 : (-1) ≤ p3.toInt) (hp_5 : p3.toInt ≤ 99) : Met l yX13_layDuel (wl yX13_layDuel cX13_layDuel 4 none) ({ frames := 3, cells := 0, slots := 0, locals := 140 }) (mz_p D cy ld ad am Fa Ga Ra Sa [.ref am, .int p1, .int p2, .int p3]) (mz_w D cy ad am (fun F G R S => mz_IF true F ∧ mz_IG G ∧ mz_IR [] true R ∧ (∀ k : Nat, k ∉ ([] : List Nat) → F k = Fa k) ∧ (∀ k : Nat, k ∉ ([3] : List Nat) → R k = Ra k) ∧ (∀ k : Nat, k ∉ ([] : List Nat) → G k = Ga k) ∧ rK2 (Ra 3) (R 3) ∧ R 3 12 = p1 ∧ R 3 13 = p2 ∧ R 3 15 = 0 ∧ R 3 16 = p1)) 0 0 (mz_W ad am) := by
  refine mz_met (y := yX13_layDuel) (cc := cX13_layDuel) (maxL := 4) (ret := none) (av := [.ref am, .int p1, .int p2, .int p3]) _ (by decide) (Nat.le_of_ble_eq_true rfl) ?_
  intro p e s m args below meth c hx hb hr hml hts htl hown hlocks hK H locs hM hS ls hl
  have hown : s.vm.findClass RX13 = some m.cls := hown
  have hl : lv_has ls 4 [(0, .ref am), (1, .int p1), (2, .int p2), (3, .int p3)] := hl
  have hr_p1 := tk_rng p1
  have hr_p2 := tk_rng p2
  have hr_p3 := tk_rng p3
  refine lv_aload_n hx hb dX13_layDuel_0 rfl (lv_at hl 0 rfl) ?_
  refine mz_getR hx hb htl hown hK hM 3 (Nat.le_of_ble_eq_true rfl) (Nat.le_of_ble_eq_true rfl) (htl _ mw_188) (fun _ h9 => h9) dX13_layDuel_1 ?_
  refine lv_bipush (v := 12) hx hb dX13_layDuel_4 (by decide) ?_
  refine lv_iload_n hx hb dX13_layDuel_6 rfl (lv_at hl 1 rfl) ?_
  have hk_12 : (12 : Int32).toInt = 12 := by decide
  refine mz_iast (x := p1) hx hb hK hD hM hS 3 (Nat.le_of_ble_eq_true rfl) rfl (nn := 5560) rfl (I := 12) (by decide) (by decide) (by decide) dX13_layDuel_7 (fun H locs R hM hS hw9 hj9 => ?_)
  have hIR := hIR.put hw9 hj9 (mz_r3 (hIR.at 3) (I := 12) (by decide) (by omega) (by omega) (fun h9 => by first | (cases h9; done) | omega) (by unfold mE; omega))
  have hRR := mz_frp (K := [3]) (Fa := Ra) hj9 (fun _ _ => rfl) (by decide)
  have hrel := rK2.put (I := 12) (rK2.refl rfl) hw9 (by decide) (by omega) (by omega) (by omega)
  have hf2 : R 3 12 = p1 := (congrFun hw9 12).trans pk_us
  refine lv_aload_n hx hb dX13_layDuel_8 rfl (lv_at hl 0 rfl) ?_
  refine mz_getR hx hb htl hown hK hM 3 (Nat.le_of_ble_eq_true rfl) (Nat.le_of_ble_eq_true rfl) (htl _ mw_188) (fun _ h9 => h9) dX13_layDuel_9 ?_
  refine lv_bipush (v := 13) hx hb dX13_layDuel_12 (by decide) ?_
  refine lv_iload_n hx hb dX13_layDuel_14 rfl (lv_at hl 2 rfl) ?_
  have hk_13 : (13 : Int32).toInt = 13 := by decide
  refine mz_iast (x := p2) hx hb hK hD hM hS 3 (Nat.le_of_ble_eq_true rfl) rfl (nn := 5560) rfl (I := 13) (by decide) (by decide) (by decide) dX13_layDuel_15 (fun H locs R hM hS hw9 hj9 => ?_)
  have hIR := hIR.put hw9 hj9 (mz_r3 (hIR.at 3) (I := 13) (by decide) (by omega) (by omega) (fun h9 => by first | (cases h9; done) | omega) (by unfold mE; omega))
  have hRR := mz_frp (K := [3]) (Fa := Ra) hj9 hRR (by decide)
  have hrel := rK2.put (I := 13) hrel hw9 (by decide) (by omega) (by omega) (by omega)
  have hf2 : R 3 12 = _ := (congrFun hw9 12).trans ((pk_un (by decide)).trans hf2)
  have hf4 : R 3 13 = p2 := (congrFun hw9 13).trans pk_us
  refine lv_aload_n hx hb dX13_layDuel_16 rfl (lv_at hl 0 rfl) ?_
  refine mz_getR hx hb htl hown hK hM 3 (Nat.le_of_ble_eq_true rfl) (Nat.le_of_ble_eq_true rfl) (htl _ mw_188) (fun _ h9 => h9) dX13_layDuel_17 ?_
  refine lv_bipush (v := 14) hx hb dX13_layDuel_20 (by decide) ?_
  refine lv_iload_n hx hb dX13_layDuel_22 rfl (lv_at hl 3 rfl) ?_
  have hk_14 : (14 : Int32).toInt = 14 := by decide
  refine mz_iast (x := p3) hx hb hK hD hM hS 3 (Nat.le_of_ble_eq_true rfl) rfl (nn := 5560) rfl (I := 14) (by decide) (by decide) (by decide) dX13_layDuel_23 (fun H locs R hM hS hw9 hj9 => ?_)
  have hIR := hIR.put hw9 hj9 (mz_r3 (hIR.at 3) (I := 14) (by decide) (by omega) (by omega) (fun h9 => by first | (cases h9; done) | omega) (by unfold mE; omega))
  have hRR := mz_frp (K := [3]) (Fa := Ra) hj9 hRR (by decide)
  have hrel := rK2.put (I := 14) hrel hw9 (by decide) (by omega) (by omega) (by omega)
  have hf2 : R 3 12 = _ := (congrFun hw9 12).trans ((pk_un (by decide)).trans hf2)
  have hf4 : R 3 13 = _ := (congrFun hw9 13).trans ((pk_un (by decide)).trans hf4)
  have hf6 : R 3 14 = p3 := (congrFun hw9 14).trans pk_us
  refine lv_aload_n hx hb dX13_layDuel_24 rfl (lv_at hl 0 rfl) ?_
  refine mz_getR hx hb htl hown hK hM 3 (Nat.le_of_ble_eq_true rfl) (Nat.le_of_ble_eq_true rfl) (htl _ mw_188) (fun _ h9 => h9) dX13_layDuel_25 ?_
  refine lv_bipush (v := 15) hx hb dX13_layDuel_28 (by decide) ?_
  refine lv_iconst (v := 0) hx hb dX13_layDuel_30 (by decide) ?_
  have hk_15 : (15 : Int32).toInt = 15 := by decide
  have hk_0 : (0 : Int32).toInt = 0 := by decide
  refine mz_iast (x := 0) hx hb hK hD hM hS 3 (Nat.le_of_ble_eq_true rfl) rfl (nn := 5560) rfl (I := 15) (by decide) (by decide) (by decide) dX13_layDuel_31 (fun H locs R hM hS hw9 hj9 => ?_)
  have hIR := hIR.put hw9 hj9 (mz_r3 (hIR.at 3) (I := 15) (by decide) (by omega) (by omega) (fun h9 => by first | (cases h9; done) | omega) (by unfold mE; omega))
  have hRR := mz_frp (K := [3]) (Fa := Ra) hj9 hRR (by decide)
  have hrel := rK2.put (I := 15) hrel hw9 (by decide) (by omega) (by omega) (by omega)
  have hf2 : R 3 12 = _ := (congrFun hw9 12).trans ((pk_un (by decide)).trans hf2)
  have hf4 : R 3 13 = _ := (congrFun hw9 13).trans ((pk_un (by decide)).trans hf4)
  have hf6 : R 3 14 = _ := (congrFun hw9 14).trans ((pk_un (by decide)).trans hf6)
  have hf11 : R 3 15 = 0 := (congrFun hw9 15).trans pk_us
  refine lv_aload_n hx hb dX13_layDuel_32 rfl (lv_at hl 0 rfl) ?_
  refine mz_getR hx hb htl hown hK hM 3 (Nat.le_of_ble_eq_true rfl) (Nat.le_of_ble_eq_true rfl) (htl _ mw_188) (fun _ h9 => h9) dX13_layDuel_33 ?_
  refine lv_bipush (v := 16) hx hb dX13_layDuel_36 (by decide) ?_
  refine lv_iload_n hx hb dX13_layDuel_38 rfl (lv_at hl 1 rfl) ?_
  have hk_16 : (16 : Int32).toInt = 16 := by decide
  refine mz_iast (x := p1) hx hb hK hD hM hS 3 (Nat.le_of_ble_eq_true rfl) rfl (nn := 5560) rfl (I := 16) (by decide) (by decide) (by decide) dX13_layDuel_39 (fun H locs R hM hS hw9 hj9 => ?_)
  have hIR := hIR.put hw9 hj9 (mz_r3 (hIR.at 3) (I := 16) (by decide) (by omega) (by omega) (fun h9 => by first | (cases h9; done) | omega) (by unfold mE; omega))
  have hRR := mz_frp (K := [3]) (Fa := Ra) hj9 hRR (by decide)
  have hrel := rK2.put (I := 16) hrel hw9 (by decide) (by omega) (by omega) (by omega)
  have hf2 : R 3 12 = _ := (congrFun hw9 12).trans ((pk_un (by decide)).trans hf2)
  have hf4 : R 3 13 = _ := (congrFun hw9 13).trans ((pk_un (by decide)).trans hf4)
  have hf6 : R 3 14 = _ := (congrFun hw9 14).trans ((pk_un (by decide)).trans hf6)
  have hf11 : R 3 15 = _ := (congrFun hw9 15).trans ((pk_un (by decide)).trans hf11)
  have hf13 : R 3 16 = p1 := (congrFun hw9 16).trans pk_us
  refine lv_aload_n hx hb dX13_layDuel_40 rfl (lv_at hl 0 rfl) ?_
  refine mz_getR hx hb htl hown hK hM 3 (Nat.le_of_ble_eq_true rfl) (Nat.le_of_ble_eq_true rfl) (htl _ mw_188) (fun _ h9 => h9) dX13_layDuel_41 ?_
  refine lv_bipush (v := 17) hx hb dX13_layDuel_44 (by decide) ?_
  refine lv_iconst (v := (-1)) hx hb dX13_layDuel_46 (by decide) ?_
  have hk_17 : (17 : Int32).toInt = 17 := by decide
  have hk_m1 : ((-1) : Int32).toInt = (-1) := by decide
  refine mz_iast (x := (-1)) hx hb hK hD hM hS 3 (Nat.le_of_ble_eq_true rfl) rfl (nn := 5560) rfl (I := 17) (by decide) (by decide) (by decide) dX13_layDuel_47 (fun H locs R hM hS hw9 hj9 => ?_)
  have hIR := hIR.put hw9 hj9 (mz_r3 (hIR.at 3) (I := 17) (by decide) (by omega) (by omega) (fun h9 => by first | (cases h9; done) | omega) (by unfold mE; omega))
  have hRR := mz_frp (K := [3]) (Fa := Ra) hj9 hRR (by decide)
  have hrel := rK2.put (I := 17) hrel hw9 (by decide) (by omega) (by omega) (by omega)
  have hf2 : R 3 12 = _ := (congrFun hw9 12).trans ((pk_un (by decide)).trans hf2)
  have hf4 : R 3 13 = _ := (congrFun hw9 13).trans ((pk_un (by decide)).trans hf4)
  have hf6 : R 3 14 = _ := (congrFun hw9 14).trans ((pk_un (by decide)).trans hf6)
  have hf11 : R 3 15 = _ := (congrFun hw9 15).trans ((pk_un (by decide)).trans hf11)
  have hf13 : R 3 16 = _ := (congrFun hw9 16).trans ((pk_un (by decide)).trans hf13)
  have hf15 : R 3 17 = (-1) := (congrFun hw9 17).trans pk_us
  have hk_0 : (0 : Int32).toInt = 0 := by decide
  have hIR := hIR.duel (by unfold dO; rw [hf2, show R 3 (12 + 1) = _ from hf4, show R 3 (12 + 2) = _ from hf6, show R 3 (12 + 3) = _ from hf11, show R 3 (12 + 4) = _ from hf13]; omega)
  exact mz_vret hx hb hr hlocks ⟨hIF, hIG, hIR, (fun _ _ => rfl), hRR, (fun _ _ => rfl), hrel, hf2, hf4, hf11, hf13⟩ hM hS dX13_layDuel_48
end
section
set_option maxHeartbeats 4000000 in
set_option maxRecDepth 100000 in
theorem k_X13_ofSinger_3 (l : Launch) (D : va_G) (cy : Nat → ClassId) (ld ad : Nat → Nat) (am : Nat) (hD : mz_D ad am) (Fa : Nat → Int32) (Ga : Nat → Int64) (Ra : Nat → Nat → Int32) (Sa : Nat → Nat → Int64) (p1 : Int32) (hIF : mz_IF false Fa) (hIG : mz_IG Ga) (hIR : mz_IR [] true Ra) (hp_0 : 0 ≤ p1.toInt) (hp_1 : p1.toInt ≤ 7) : Met l yX13_ofSinger (wl yX13_ofSinger cX13_ofSinger 3 (some .int)) ({ frames := 3, cells := 0, slots := 0, locals := 140 }) (mz_p D cy ld ad am Fa Ga Ra Sa [.ref am, .int p1, .int 3]) (mz_j D cy ad am Fa Ga Ra Sa (fun r => 0 ≤ r.toInt ∧ r.toInt ≤ 1)) 0 0 (mz_W ad am) := by
  refine mz_met (y := yX13_ofSinger) (cc := cX13_ofSinger) (maxL := 3) (ret := (some .int)) (av := [.ref am, .int p1, .int 3]) _ (by decide) (Nat.le_of_ble_eq_true rfl) ?_
  intro p e s m args below meth c hx hb hr hml hts htl hown hlocks hK H locs hM hS ls hl
  have hown : s.vm.findClass RX13 = some m.cls := hown
  have hl : lv_has ls 3 [(0, .ref am), (1, .int p1), (2, .int 3)] := hl
  have hr_p1 := tk_rng p1
  refine lv_aload_n hx hb dX13_ofSinger_0 rfl (lv_at hl 0 rfl) ?_
  refine mz_getR hx hb htl hown hK hM 3 (Nat.le_of_ble_eq_true rfl) (Nat.le_of_ble_eq_true rfl) (htl _ mw_188) (fun _ h9 => h9) dX13_ofSinger_1 ?_
  refine lv_bipush (v := 18) hx hb dX13_ofSinger_4 (by decide) ?_
  refine lv_iconst (v := 5) hx hb dX13_ofSinger_6 (by decide) ?_
  refine lv_iload_n hx hb dX13_ofSinger_7 rfl (lv_at hl 1 rfl) ?_
  refine lv_imul hx hb dX13_ofSinger_8 ?_
  refine tk_mul (show (5 : Int32).toInt = 5 by decide) rfl (by omega) (by omega) (fun v1 h_v1 => ?_)
  refine lv_iadd hx hb dX13_ofSinger_9 ?_
  refine tk_add (show (18 : Int32).toInt = 18 by decide) rfl (by omega) (by omega) (fun v2 h_v2 => ?_)
  refine lv_iload_n hx hb dX13_ofSinger_10 rfl (lv_at hl 2 rfl) ?_
  refine lv_iadd hx hb dX13_ofSinger_11 ?_
  refine tk_add rfl (show (3 : Int32).toInt = 3 by decide) (by omega) (by omega) (fun v3 h_v3 => ?_)
  refine mz_iald hx hb hK hM 3 (Nat.le_of_ble_eq_true rfl) rfl (nn := 5560) rfl rfl (by omega) (by omega) dX13_ofSinger_12 (fun v4 e_v4 => ?_)
  have hq_v4 := tk_rng v4
  have he_v4 : 0 ≤ v4.toInt ∧ v4.toInt ≤ 1 := by have h9 := mz_r3g (hIR.at 3) e_v4 rfl (by omega) (by omega); unfold mE at h9; omega
  exact mz_jret (v := v4) hx hb hr rfl hlocks ⟨(by omega), (by omega)⟩ hM hS dX13_ofSinger_13
end
section
theorem dX13_isUp_0 : decode cX13_isUp 0 = .ok (.aload_n 0, 1) := by decide +kernel
theorem dX13_isUp_1 : decode cX13_isUp 1 = .ok (.iload_n 1, 1) := by decide +kernel
theorem dX13_isUp_2 : decode cX13_isUp 2 = .ok (.iconst 3, 1) := by decide +kernel
theorem dX13_isUp_3 : decode cX13_isUp 3 = .ok (.invokevirtual 207, 3) := by decide +kernel
theorem dX13_isUp_6 : decode cX13_isUp 6 = .ok (.ifCond .ne 16, 3) := by decide +kernel
theorem dX13_isUp_22 : decode cX13_isUp 22 = .ok (.iconst 0, 1) := by decide +kernel
theorem dX13_isUp_23 : decode cX13_isUp 23 = .ok (.ireturn, 1) := by decide +kernel
theorem dX13_isUp_9 : decode cX13_isUp 9 = .ok (.aload_n 0, 1) := by decide +kernel
theorem dX13_isUp_10 : decode cX13_isUp 10 = .ok (.iload_n 1, 1) := by decide +kernel
theorem dX13_isUp_11 : decode cX13_isUp 11 = .ok (.iconst 0, 1) := by decide +kernel
theorem dX13_isUp_12 : decode cX13_isUp 12 = .ok (.invokevirtual 207, 3) := by decide +kernel
theorem dX13_isUp_15 : decode cX13_isUp 15 = .ok (.ifCond .le 7, 3) := by decide +kernel
theorem dX13_isUp_18 : decode cX13_isUp 18 = .ok (.iconst 1, 1) := by decide +kernel
theorem dX13_isUp_19 : decode cX13_isUp 19 = .ok (.goto 4, 3) := by decide +kernel
set_option maxHeartbeats 4000000 in
set_option maxRecDepth 100000 in
theorem k_X13_isUp (l : Launch) (D : va_G) (cy : Nat → ClassId) (ld ad : Nat → Nat) (am : Nat) (hD : mz_D ad am) (Fa : Nat → Int32) (Ga : Nat → Int64) (Ra : Nat → Nat → Int32) (Sa : Nat → Nat → Int64) (p1 : Int32) (hIF : mz_IF false Fa) (hIG : mz_IG Ga) (hIR : mz_IR [] true Ra) (hp_0 : 0 ≤ p1.toInt) (hp_1 : p1.toInt ≤ 7) : Met l yX13_isUp (wl yX13_isUp cX13_isUp 2 (some .boolean)) ({ frames := 4, cells := 0, slots := 0, locals := 210 }) (mz_p D cy ld ad am Fa Ga Ra Sa [.ref am, .int p1]) (mz_j D cy ad am Fa Ga Ra Sa (fun r => 0 ≤ r.toInt ∧ r.toInt ≤ 1 ∧ 0 ≤ r.toInt ∧ r.toInt ≤ 1)) 0 0 (mz_W ad am) := by
  refine mz_met (y := yX13_isUp) (cc := cX13_isUp) (maxL := 2) (ret := (some .boolean)) (av := [.ref am, .int p1]) _ (by decide) (Nat.le_of_ble_eq_true rfl) ?_
  intro p e s m args below meth c hx hb hr hml hts htl hown hlocks hK H locs hM hS ls hl
  have hown : s.vm.findClass RX13 = some m.cls := hown
  have hl : lv_has ls 2 [(0, .ref am), (1, .int p1)] := hl
  have hr_p1 := tk_rng p1
  refine lv_aload_n hx hb dX13_isUp_0 rfl (lv_at hl 0 rfl) ?_
  refine lv_iload_n hx hb dX13_isUp_1 rfl (lv_at hl 1 rfl) ?_
  refine lv_iconst (v := 3) hx hb dX13_isUp_2 (by decide) ?_
  have hk_3 : (3 : Int32).toInt = 3 := by decide
  refine mz_Vj (As := [.int p1, .int 3]) (rest := []) ⟨hx, hb, hml, hown, hts⟩ hK hM hS (k_X13_ofSinger_3 l D cy ld ad am hD _ _ _ _ p1 hIF hIG hIR (by omega) (by omega)) ⟨callB_of 2 hts (wl_in mw_324) rfl rfl rfl (htl _ mw_5) (htl _ mw_321) hd_yX13_ofSinger ⟨(Nat.le_of_ble_eq_true rfl), (Nat.le_of_ble_eq_true rfl)⟩, htl _ mw_322, htl _ mw_323⟩ rfl hl.1 rfl (Nat.le_of_ble_eq_true rfl) dX13_isUp_3 ⟨(Nat.le_of_ble_eq_true rfl), (Nat.le_of_ble_eq_true rfl)⟩ (fun v1 H locs hpo hM hS => ?_)
  obtain ⟨hpo2, hpo3⟩ := hpo
  have hq_v1 := tk_rng v1
  refine lv_if_ne (tgt := 22) hx hb dX13_isUp_6 (by decide) (fun c9 => ?_) (fun c9 => ?_)
  · have hc5 : ¬ (v1.toInt = 0) := fun h9 => c9 ((fi_eq rfl (show (0 : Int32).toInt = 0 by decide)).mpr h9)
    refine lv_iconst (v := 0) hx hb dX13_isUp_22 (by decide) ?_
    have hk_0 : (0 : Int32).toInt = 0 := by decide
    exact mz_jret (v := 0) hx hb hr rfl hlocks ⟨(by omega), (by omega), (by omega), (by omega)⟩ hM hS dX13_isUp_23
  · have hc5 : v1.toInt = 0 := (fi_eq rfl (show (0 : Int32).toInt = 0 by decide)).mp c9
    refine lv_aload_n hx hb dX13_isUp_9 rfl (lv_at hl 0 rfl) ?_
    refine lv_iload_n hx hb dX13_isUp_10 rfl (lv_at hl 1 rfl) ?_
    refine lv_iconst (v := 0) hx hb dX13_isUp_11 (by decide) ?_
    have hk_0 : (0 : Int32).toInt = 0 := by decide
    refine mz_Vj (As := [.int p1, .int 0]) (rest := []) ⟨hx, hb, hml, hown, hts⟩ hK hM hS (k_X13_ofSinger_0 l D cy ld ad am hD _ _ _ _ p1 hIF hIG hIR (by omega) (by omega)) ⟨callB_of 2 hts (wl_in mw_324) rfl rfl rfl (htl _ mw_5) (htl _ mw_321) hd_yX13_ofSinger ⟨(Nat.le_of_ble_eq_true rfl), (Nat.le_of_ble_eq_true rfl)⟩, htl _ mw_322, htl _ mw_323⟩ rfl hl.1 rfl (Nat.le_of_ble_eq_true rfl) dX13_isUp_12 ⟨(Nat.le_of_ble_eq_true rfl), (Nat.le_of_ble_eq_true rfl)⟩ (fun v6 H locs hpo hM hS => ?_)
    have hq_v6 := tk_rng v6
    refine lv_if_le (tgt := 22) hx hb dX13_isUp_15 (by decide) (fun c9 => ?_) (fun c9 => ?_)
    · have hc11 : v6.toInt ≤ 0 := (fi_le rfl (show (0 : Int32).toInt = 0 by decide)).mp c9
      refine lv_iconst (v := 0) hx hb dX13_isUp_22 (by decide) ?_
      have hk_0 : (0 : Int32).toInt = 0 := by decide
      exact mz_jret (v := 0) hx hb hr rfl hlocks ⟨(by omega), (by omega), (by omega), (by omega)⟩ hM hS dX13_isUp_23
    · have hc11 : ¬ (v6.toInt ≤ 0) := fun h9 => c9 ((fi_le rfl (show (0 : Int32).toInt = 0 by decide)).mpr h9)
      refine lv_iconst (v := 1) hx hb dX13_isUp_18 (by decide) ?_
      refine lv_goto (tgt := 23) hx hb dX13_isUp_19 (by decide) ?_
      have hk_1 : (1 : Int32).toInt = 1 := by decide
      exact mz_jret (v := 1) hx hb hr rfl hlocks ⟨(by omega), (by omega), (by omega), (by omega)⟩ hM hS dX13_isUp_23
end
section
set_option maxHeartbeats 4000000 in
set_option maxRecDepth 100000 in
theorem k_X13_ofSinger_2 (l : Launch) (D : va_G) (cy : Nat → ClassId) (ld ad : Nat → Nat) (am : Nat) (hD : mz_D ad am) (Fa : Nat → Int32) (Ga : Nat → Int64) (Ra : Nat → Nat → Int32) (Sa : Nat → Nat → Int64) (p1 : Int32) (hIF : mz_IF false Fa) (hIG : mz_IG Ga) (hIR : mz_IR [] true Ra) (hp_0 : 0 ≤ p1.toInt) (hp_1 : p1.toInt ≤ 7) : Met l yX13_ofSinger (wl yX13_ofSinger cX13_ofSinger 3 (some .int)) ({ frames := 3, cells := 0, slots := 0, locals := 140 }) (mz_p D cy ld ad am Fa Ga Ra Sa [.ref am, .int p1, .int 2]) (mz_j D cy ad am Fa Ga Ra Sa (fun r => 0 ≤ r.toInt ∧ r.toInt ≤ 1)) 0 0 (mz_W ad am) := by
  refine mz_met (y := yX13_ofSinger) (cc := cX13_ofSinger) (maxL := 3) (ret := (some .int)) (av := [.ref am, .int p1, .int 2]) _ (by decide) (Nat.le_of_ble_eq_true rfl) ?_
  intro p e s m args below meth c hx hb hr hml hts htl hown hlocks hK H locs hM hS ls hl
  have hown : s.vm.findClass RX13 = some m.cls := hown
  have hl : lv_has ls 3 [(0, .ref am), (1, .int p1), (2, .int 2)] := hl
  have hr_p1 := tk_rng p1
  refine lv_aload_n hx hb dX13_ofSinger_0 rfl (lv_at hl 0 rfl) ?_
  refine mz_getR hx hb htl hown hK hM 3 (Nat.le_of_ble_eq_true rfl) (Nat.le_of_ble_eq_true rfl) (htl _ mw_188) (fun _ h9 => h9) dX13_ofSinger_1 ?_
  refine lv_bipush (v := 18) hx hb dX13_ofSinger_4 (by decide) ?_
  refine lv_iconst (v := 5) hx hb dX13_ofSinger_6 (by decide) ?_
  refine lv_iload_n hx hb dX13_ofSinger_7 rfl (lv_at hl 1 rfl) ?_
  refine lv_imul hx hb dX13_ofSinger_8 ?_
  refine tk_mul (show (5 : Int32).toInt = 5 by decide) rfl (by omega) (by omega) (fun v1 h_v1 => ?_)
  refine lv_iadd hx hb dX13_ofSinger_9 ?_
  refine tk_add (show (18 : Int32).toInt = 18 by decide) rfl (by omega) (by omega) (fun v2 h_v2 => ?_)
  refine lv_iload_n hx hb dX13_ofSinger_10 rfl (lv_at hl 2 rfl) ?_
  refine lv_iadd hx hb dX13_ofSinger_11 ?_
  refine tk_add rfl (show (2 : Int32).toInt = 2 by decide) (by omega) (by omega) (fun v3 h_v3 => ?_)
  refine mz_iald hx hb hK hM 3 (Nat.le_of_ble_eq_true rfl) rfl (nn := 5560) rfl rfl (by omega) (by omega) dX13_ofSinger_12 (fun v4 e_v4 => ?_)
  have hq_v4 := tk_rng v4
  have he_v4 : 0 ≤ v4.toInt ∧ v4.toInt ≤ 1 := by have h9 := mz_r3g (hIR.at 3) e_v4 rfl (by omega) (by omega); unfold mE at h9; omega
  exact mz_jret (v := v4) hx hb hr rfl hlocks ⟨(by omega), (by omega)⟩ hM hS dX13_ofSinger_13
end
section
theorem hd_yX13_isUp : yX13_isUp.cls ≠ "java/lang/invoke/MethodHandle" ∧ yX13_isUp.cls ≠ "java/lang/invoke/VarHandle" ∧ (parseMethodDescriptor yX13_isUp.desc).map (fun d => d.parameters.length) = some 1 := by decide +kernel
theorem hd_yX13_remember : yX13_remember.cls ≠ "java/lang/invoke/MethodHandle" ∧ yX13_remember.cls ≠ "java/lang/invoke/VarHandle" ∧ (parseMethodDescriptor yX13_remember.desc).map (fun d => d.parameters.length) = some 1 := by decide +kernel
theorem hd_yX13_layDuel : yX13_layDuel.cls ≠ "java/lang/invoke/MethodHandle" ∧ yX13_layDuel.cls ≠ "java/lang/invoke/VarHandle" ∧ (parseMethodDescriptor yX13_layDuel.desc).map (fun d => d.parameters.length) = some 3 := by decide +kernel
theorem dX13_beginNow_0 : decode cX13_beginNow 0 = .ok (.iload_n 3, 1) := by decide +kernel
theorem dX13_beginNow_1 : decode cX13_beginNow 1 = .ok (.i2l, 1) := by decide +kernel
theorem dX13_beginNow_2 : decode cX13_beginNow 2 = .ok (.lconst 1, 1) := by decide +kernel
theorem dX13_beginNow_3 : decode cX13_beginNow 3 = .ok (.ldc2_w 211, 3) := by decide +kernel
theorem dX13_beginNow_6 : decode cX13_beginNow 6 = .ok (.invokestatic 190, 3) := by decide +kernel
theorem dX13_beginNow_9 : decode cX13_beginNow 9 = .ok (.ifCond .ne 5, 3) := by decide +kernel
theorem dX13_beginNow_14 : decode cX13_beginNow 14 = .ok (.aload_n 0, 1) := by decide +kernel
theorem dX13_beginNow_15 : decode cX13_beginNow 15 = .ok (.iload_n 1, 1) := by decide +kernel
theorem dX13_beginNow_16 : decode cX13_beginNow 16 = .ok (.invokevirtual 201, 3) := by decide +kernel
theorem dX13_beginNow_19 : decode cX13_beginNow 19 = .ok (.ifCond .eq 11, 3) := by decide +kernel
theorem dX13_beginNow_30 : decode cX13_beginNow 30 = .ok (.bipush (-2), 2) := by decide +kernel
theorem dX13_beginNow_32 : decode cX13_beginNow 32 = .ok (.ireturn, 1) := by decide +kernel
theorem dX13_beginNow_22 : decode cX13_beginNow 22 = .ok (.aload_n 0, 1) := by decide +kernel
theorem dX13_beginNow_23 : decode cX13_beginNow 23 = .ok (.iload_n 2, 1) := by decide +kernel
theorem dX13_beginNow_24 : decode cX13_beginNow 24 = .ok (.invokevirtual 201, 3) := by decide +kernel
theorem dX13_beginNow_27 : decode cX13_beginNow 27 = .ok (.ifCond .ne 6, 3) := by decide +kernel
theorem dX13_beginNow_33 : decode cX13_beginNow 33 = .ok (.aload_n 0, 1) := by decide +kernel
theorem dX13_beginNow_34 : decode cX13_beginNow 34 = .ok (.invokevirtual 434, 3) := by decide +kernel
theorem dX13_beginNow_37 : decode cX13_beginNow 37 = .ok (.ifCond .ne 34, 3) := by decide +kernel
theorem dX13_beginNow_71 : decode cX13_beginNow 71 = .ok (.bipush (-3), 2) := by decide +kernel
theorem dX13_beginNow_73 : decode cX13_beginNow 73 = .ok (.ireturn, 1) := by decide +kernel
theorem dX13_beginNow_40 : decode cX13_beginNow 40 = .ok (.aload_n 0, 1) := by decide +kernel
theorem dX13_beginNow_41 : decode cX13_beginNow 41 = .ok (.iload_n 1, 1) := by decide +kernel
theorem dX13_beginNow_42 : decode cX13_beginNow 42 = .ok (.iconst 2, 1) := by decide +kernel
theorem dX13_beginNow_43 : decode cX13_beginNow 43 = .ok (.invokevirtual 207, 3) := by decide +kernel
theorem dX13_beginNow_46 : decode cX13_beginNow 46 = .ok (.aload_n 0, 1) := by decide +kernel
theorem dX13_beginNow_47 : decode cX13_beginNow 47 = .ok (.iload_n 2, 1) := by decide +kernel
theorem dX13_beginNow_48 : decode cX13_beginNow 48 = .ok (.iconst 2, 1) := by decide +kernel
theorem dX13_beginNow_49 : decode cX13_beginNow 49 = .ok (.invokevirtual 207, 3) := by decide +kernel
theorem dX13_beginNow_52 : decode cX13_beginNow 52 = .ok (.if_icmp .eq 19, 3) := by decide +kernel
theorem dX13_beginNow_55 : decode cX13_beginNow 55 = .ok (.aload_n 0, 1) := by decide +kernel
theorem dX13_beginNow_56 : decode cX13_beginNow 56 = .ok (.iload_n 1, 1) := by decide +kernel
theorem dX13_beginNow_57 : decode cX13_beginNow 57 = .ok (.invokevirtual 452, 3) := by decide +kernel
theorem dX13_beginNow_60 : decode cX13_beginNow 60 = .ok (.ifCond .eq 11, 3) := by decide +kernel
theorem dX13_beginNow_63 : decode cX13_beginNow 63 = .ok (.aload_n 0, 1) := by decide +kernel
theorem dX13_beginNow_64 : decode cX13_beginNow 64 = .ok (.iload_n 2, 1) := by decide +kernel
theorem dX13_beginNow_65 : decode cX13_beginNow 65 = .ok (.invokevirtual 452, 3) := by decide +kernel
theorem dX13_beginNow_68 : decode cX13_beginNow 68 = .ok (.ifCond .ne 6, 3) := by decide +kernel
theorem dX13_beginNow_74 : decode cX13_beginNow 74 = .ok (.aload_n 0, 1) := by decide +kernel
theorem dX13_beginNow_75 : decode cX13_beginNow 75 = .ok (.iconst 0, 1) := by decide +kernel
theorem dX13_beginNow_76 : decode cX13_beginNow 76 = .ok (.invokevirtual 455, 3) := by decide +kernel
theorem dX13_beginNow_79 : decode cX13_beginNow 79 = .ok (.aload_n 0, 1) := by decide +kernel
theorem dX13_beginNow_80 : decode cX13_beginNow 80 = .ok (.iload_n 1, 1) := by decide +kernel
theorem dX13_beginNow_81 : decode cX13_beginNow 81 = .ok (.iload_n 2, 1) := by decide +kernel
theorem dX13_beginNow_82 : decode cX13_beginNow 82 = .ok (.iload_n 3, 1) := by decide +kernel
theorem dX13_beginNow_83 : decode cX13_beginNow 83 = .ok (.invokevirtual 458, 3) := by decide +kernel
theorem dX13_beginNow_86 : decode cX13_beginNow 86 = .ok (.iconst 0, 1) := by decide +kernel
theorem dX13_beginNow_87 : decode cX13_beginNow 87 = .ok (.ireturn, 1) := by decide +kernel
theorem dX13_beginNow_12 : decode cX13_beginNow 12 = .ok (.iconst (-1), 1) := by decide +kernel
theorem dX13_beginNow_13 : decode cX13_beginNow 13 = .ok (.ireturn, 1) := by decide +kernel
set_option maxHeartbeats 4000000 in
set_option maxRecDepth 100000 in
theorem k_X13_beginNow (l : Launch) (D : va_G) (cy : Nat → ClassId) (ld ad : Nat → Nat) (am : Nat) (hD : mz_D ad am) (Fa : Nat → Int32) (Ga : Nat → Int64) (Ra : Nat → Nat → Int32) (Sa : Nat → Nat → Int64) (p1 : Int32) (p2 : Int32) (p3 : Int32) (hIF : mz_IF true Fa) (hIG : mz_IG Ga) (hIR : mz_IR [] true Ra) : Met l yX13_beginNow (wl yX13_beginNow cX13_beginNow 4 (some .int)) ({ frames := 5, cells := 0, slots := 0, locals := 280 }) (mz_p D cy ld ad am Fa Ga Ra Sa [.ref am, .int p1, .int p2, .int p3]) (mz_i D cy ad am (fun r F G R S => mz_IF true F ∧ mz_IG G ∧ mz_IR [] true R ∧ (∀ k : Nat, k ∉ ([8] : List Nat) → F k = Fa k) ∧ (∀ k : Nat, k ∉ ([3, 6, 7] : List Nat) → R k = Ra k) ∧ (∀ k : Nat, k ∉ ([] : List Nat) → G k = Ga k) ∧ rK1 (Ra 3) (R 3) ∧ (-3) ≤ r.toInt ∧ r.toInt ≤ 0)) 0 0 (mz_W ad am) := by
  refine mz_met (y := yX13_beginNow) (cc := cX13_beginNow) (maxL := 4) (ret := (some .int)) (av := [.ref am, .int p1, .int p2, .int p3]) _ (by decide) (Nat.le_of_ble_eq_true rfl) ?_
  intro p e s m args below meth c hx hb hr hml hts htl hown hlocks hK H locs hM hS ls hl
  have hown : s.vm.findClass RX13 = some m.cls := hown
  have hl : lv_has ls 4 [(0, .ref am), (1, .int p1), (2, .int p2), (3, .int p3)] := hl
  have hr_p1 := tk_rng p1
  have hr_p2 := tk_rng p2
  have hr_p3 := tk_rng p3
  refine lv_iload_n hx hb dX13_beginNow_0 rfl (lv_at hl 3 rfl) ?_
  obtain ⟨w1, e_w1, h_w1⟩ : ∃ z : Int64, p3.toInt64 = z ∧ z.toInt = p3.toInt := ⟨_, rfl, fl_w _⟩
  refine lv_i2l (v := w1) hx hb dX13_beginNow_1 e_w1 ?_
  refine lv_lconst (v := 1) hx hb dX13_beginNow_2 (by decide) ?_
  refine lv_ldc2 hx hb hown (htl _ mw_342) dX13_beginNow_3 ?_
  have hk_1 : (1 : Int64).toInt = 1 := by decide
  have hk_99 : (99 : Int64).toInt = 99 := by decide
  refine mz_Sj (As := [.long w1, .long 1, .long 99]) (rest := []) ⟨hx, hb, hml, hown, hts⟩ hK hM hS (k_X13_in l D cy ld ad am hD _ _ _ _ w1 1 99) ⟨callB_of 3 hts (wl_in mw_292) rfl rfl rfl (htl _ mw_5) (htl _ mw_290) hd_yX13_in ⟨(Nat.le_of_ble_eq_true rfl), (Nat.le_of_ble_eq_true rfl)⟩, htl _ mw_291⟩ rfl hl.1 rfl (Nat.le_of_ble_eq_true rfl) dX13_beginNow_6 ⟨(Nat.le_of_ble_eq_true rfl), (Nat.le_of_ble_eq_true rfl)⟩ (fun v2 H locs hpo hM hS => ?_)
  obtain ⟨hpo3, hpo4, hpo5, hpo6, hpo10, hpo11⟩ := hpo
  have hq_v2 := tk_rng v2
  refine lv_if_ne (tgt := 14) hx hb dX13_beginNow_9 (by decide) (fun c9 => ?_) (fun c9 => ?_)
  · have hc13 : ¬ (v2.toInt = 0) := fun h9 => c9 ((fi_eq rfl (show (0 : Int32).toInt = 0 by decide)).mpr h9)
    have hwk_14 : 1 ≤ w1.toInt ∧ w1.toInt ≤ 99 := by omega
    refine lv_aload_n hx hb dX13_beginNow_14 rfl (lv_at hl 0 rfl) ?_
    refine lv_iload_n hx hb dX13_beginNow_15 rfl (lv_at hl 1 rfl) ?_
    refine mz_Vj (As := [.int p1]) (rest := []) ⟨hx, hb, hml, hown, hts⟩ hK hM hS (k_X13_isSinger l D cy ld ad am hD _ _ _ _ p1 (hIF.weak) hIG hIR) ⟨callB_of 1 hts (wl_in mw_320) rfl rfl rfl (htl _ mw_5) (htl _ mw_317) hd_yX13_isSinger ⟨(Nat.le_of_ble_eq_true rfl), (Nat.le_of_ble_eq_true rfl)⟩, htl _ mw_318, htl _ mw_319⟩ rfl hl.1 rfl (Nat.le_of_ble_eq_true rfl) dX13_beginNow_16 ⟨(Nat.le_of_ble_eq_true rfl), (Nat.le_of_ble_eq_true rfl)⟩ (fun v15 H locs hpo hM hS => ?_)
    obtain ⟨hpo16, hpo17, hpo18, hpo19, hpo20⟩ := hpo
    have hq_v15 := tk_rng v15
    refine lv_if_eq (tgt := 30) hx hb dX13_beginNow_19 (by decide) (fun c9 => ?_) (fun c9 => ?_)
    · have hc22 : v15.toInt = 0 := (fi_eq rfl (show (0 : Int32).toInt = 0 by decide)).mp c9
      refine lv_bipush (v := (-2)) hx hb dX13_beginNow_30 (by decide) ?_
      have hk_m2 : ((-2) : Int32).toInt = (-2) := by decide
      exact mz_iret (v := (-2)) hx hb hr rfl hlocks ⟨hIF, hIG, hIR, (fun _ _ => rfl), (fun _ _ => rfl), (fun _ _ => rfl), (rK1.refl rfl), (by omega), (by omega)⟩ hM hS dX13_beginNow_32
    · have hc22 : ¬ (v15.toInt = 0) := fun h9 => c9 ((fi_eq rfl (show (0 : Int32).toInt = 0 by decide)).mpr h9)
      have hwk_23 : 0 ≤ p1.toInt ∧ p1.toInt ≤ 7 := by omega
      refine lv_aload_n hx hb dX13_beginNow_22 rfl (lv_at hl 0 rfl) ?_
      refine lv_iload_n hx hb dX13_beginNow_23 rfl (lv_at hl 2 rfl) ?_
      refine mz_Vj (As := [.int p2]) (rest := []) ⟨hx, hb, hml, hown, hts⟩ hK hM hS (k_X13_isSinger l D cy ld ad am hD _ _ _ _ p2 (hIF.weak) hIG hIR) ⟨callB_of 1 hts (wl_in mw_320) rfl rfl rfl (htl _ mw_5) (htl _ mw_317) hd_yX13_isSinger ⟨(Nat.le_of_ble_eq_true rfl), (Nat.le_of_ble_eq_true rfl)⟩, htl _ mw_318, htl _ mw_319⟩ rfl hl.1 rfl (Nat.le_of_ble_eq_true rfl) dX13_beginNow_24 ⟨(Nat.le_of_ble_eq_true rfl), (Nat.le_of_ble_eq_true rfl)⟩ (fun v24 H locs hpo hM hS => ?_)
      obtain ⟨hpo25, hpo26, hpo27, hpo28, hpo29⟩ := hpo
      have hq_v24 := tk_rng v24
      refine lv_if_ne (tgt := 33) hx hb dX13_beginNow_27 (by decide) (fun c9 => ?_) (fun c9 => ?_)
      · have hc31 : ¬ (v24.toInt = 0) := fun h9 => c9 ((fi_eq rfl (show (0 : Int32).toInt = 0 by decide)).mpr h9)
        have hwk_32 : 0 ≤ p2.toInt ∧ p2.toInt ≤ 7 := by omega
        refine lv_aload_n hx hb dX13_beginNow_33 rfl (lv_at hl 0 rfl) ?_
        obtain ⟨v34, hf33⟩ : ∃ z : Int32, Ra 3 12 = z := ⟨_, rfl⟩
        have hq_v34 := tk_rng v34
        have hr_v34 : (-1) ≤ v34.toInt ∧ v34.toInt ≤ 7 := by have h9 := hIR.d; unfold dO at h9; rw [hf33] at h9; omega
        refine mz_Vj (As := []) (rest := []) ⟨hx, hb, hml, hown, hts⟩ hK hM hS (k_X13_isDuel l D cy ld ad am hD _ _ _ _ v34 (hIF.weak) hIG hIR hf33) ⟨callB_of 0 hts (wl_in mw_1071) rfl rfl rfl (htl _ mw_5) (htl _ mw_1068) hd_yX13_isDuel ⟨(Nat.le_of_ble_eq_true rfl), (Nat.le_of_ble_eq_true rfl)⟩, htl _ mw_1069, htl _ mw_1070⟩ rfl hl.1 rfl (Nat.le_of_ble_eq_true rfl) dX13_beginNow_34 ⟨(Nat.le_of_ble_eq_true rfl), (Nat.le_of_ble_eq_true rfl)⟩ (fun v35 H locs hpo hM hS => ?_)
        obtain ⟨hpo36, hpo37, hpo38, hpo39, hpo40, hpo41⟩ := hpo
        have hq_v35 := tk_rng v35
        refine lv_if_ne (tgt := 71) hx hb dX13_beginNow_37 (by decide) (fun c9 => ?_) (fun c9 => ?_)
        · have hc43 : ¬ (v35.toInt = 0) := fun h9 => c9 ((fi_eq rfl (show (0 : Int32).toInt = 0 by decide)).mpr h9)
          have hwk_44 : 0 ≤ v34.toInt := by omega
          refine lv_bipush (v := (-3)) hx hb dX13_beginNow_71 (by decide) ?_
          have hk_m3 : ((-3) : Int32).toInt = (-3) := by decide
          exact mz_iret (v := (-3)) hx hb hr rfl hlocks ⟨hIF, hIG, hIR, (fun _ _ => rfl), (fun _ _ => rfl), (fun _ _ => rfl), (rK1.refl rfl), (by omega), (by omega)⟩ hM hS dX13_beginNow_73
        · have hc43 : v35.toInt = 0 := (fi_eq rfl (show (0 : Int32).toInt = 0 by decide)).mp c9
          have hwk_45 : v34.toInt ≤ (-1) := by omega
          refine lv_aload_n hx hb dX13_beginNow_40 rfl (lv_at hl 0 rfl) ?_
          refine lv_iload_n hx hb dX13_beginNow_41 rfl (lv_at hl 1 rfl) ?_
          refine lv_iconst (v := 2) hx hb dX13_beginNow_42 (by decide) ?_
          have hk_2 : (2 : Int32).toInt = 2 := by decide
          refine mz_Vj (As := [.int p1, .int 2]) (rest := []) ⟨hx, hb, hml, hown, hts⟩ hK hM hS (k_X13_ofSinger_2 l D cy ld ad am hD _ _ _ _ p1 (hIF.weak) hIG hIR (by omega) (by omega)) ⟨callB_of 2 hts (wl_in mw_324) rfl rfl rfl (htl _ mw_5) (htl _ mw_321) hd_yX13_ofSinger ⟨(Nat.le_of_ble_eq_true rfl), (Nat.le_of_ble_eq_true rfl)⟩, htl _ mw_322, htl _ mw_323⟩ rfl hl.1 rfl (Nat.le_of_ble_eq_true rfl) dX13_beginNow_43 ⟨(Nat.le_of_ble_eq_true rfl), (Nat.le_of_ble_eq_true rfl)⟩ (fun v46 H locs hpo hM hS => ?_)
          obtain ⟨hpo47, hpo48⟩ := hpo
          have hq_v46 := tk_rng v46
          refine lv_aload_n hx hb dX13_beginNow_46 rfl (lv_at hl 0 rfl) ?_
          refine lv_iload_n hx hb dX13_beginNow_47 rfl (lv_at hl 2 rfl) ?_
          refine lv_iconst (v := 2) hx hb dX13_beginNow_48 (by decide) ?_
          have hk_2 : (2 : Int32).toInt = 2 := by decide
          refine mz_Vj (As := [.int p2, .int 2]) (rest := [.int v46]) ⟨hx, hb, hml, hown, hts⟩ hK hM hS (k_X13_ofSinger_2 l D cy ld ad am hD _ _ _ _ p2 (hIF.weak) hIG hIR (by omega) (by omega)) ⟨callB_of 2 hts (wl_in mw_324) rfl rfl rfl (htl _ mw_5) (htl _ mw_321) hd_yX13_ofSinger ⟨(Nat.le_of_ble_eq_true rfl), (Nat.le_of_ble_eq_true rfl)⟩, htl _ mw_322, htl _ mw_323⟩ rfl hl.1 rfl (Nat.le_of_ble_eq_true rfl) dX13_beginNow_49 ⟨(Nat.le_of_ble_eq_true rfl), (Nat.le_of_ble_eq_true rfl)⟩ (fun v50 H locs hpo hM hS => ?_)
          obtain ⟨hpo51, hpo52⟩ := hpo
          have hq_v50 := tk_rng v50
          refine lv_icmp_eq (tgt := 71) hx hb dX13_beginNow_52 (by decide) (fun c9 => ?_) (fun c9 => ?_)
          · have hc54 : v46.toInt = v50.toInt := (fi_eq rfl rfl).mp c9
            refine lv_bipush (v := (-3)) hx hb dX13_beginNow_71 (by decide) ?_
            have hk_m3 : ((-3) : Int32).toInt = (-3) := by decide
            exact mz_iret (v := (-3)) hx hb hr rfl hlocks ⟨hIF, hIG, hIR, (fun _ _ => rfl), (fun _ _ => rfl), (fun _ _ => rfl), (rK1.refl rfl), (by omega), (by omega)⟩ hM hS dX13_beginNow_73
          · have hc54 : ¬ (v46.toInt = v50.toInt) := fun h9 => c9 ((fi_eq rfl rfl).mpr h9)
            refine lv_aload_n hx hb dX13_beginNow_55 rfl (lv_at hl 0 rfl) ?_
            refine lv_iload_n hx hb dX13_beginNow_56 rfl (lv_at hl 1 rfl) ?_
            refine mz_Vj (As := [.int p1]) (rest := []) ⟨hx, hb, hml, hown, hts⟩ hK hM hS (k_X13_isUp l D cy ld ad am hD _ _ _ _ p1 (hIF.weak) hIG hIR (by omega) (by omega)) ⟨callB_of 1 hts (wl_in mw_1075) rfl rfl rfl (htl _ mw_5) (htl _ mw_1072) hd_yX13_isUp ⟨(Nat.le_of_ble_eq_true rfl), (Nat.le_of_ble_eq_true rfl)⟩, htl _ mw_1073, htl _ mw_1074⟩ rfl hl.1 rfl (Nat.le_of_ble_eq_true rfl) dX13_beginNow_57 ⟨(Nat.le_of_ble_eq_true rfl), (Nat.le_of_ble_eq_true rfl)⟩ (fun v55 H locs hpo hM hS => ?_)
            obtain ⟨hpo56, hpo57, hpo58, hpo59⟩ := hpo
            have hq_v55 := tk_rng v55
            refine lv_if_eq (tgt := 71) hx hb dX13_beginNow_60 (by decide) (fun c9 => ?_) (fun c9 => ?_)
            · have hc61 : v55.toInt = 0 := (fi_eq rfl (show (0 : Int32).toInt = 0 by decide)).mp c9
              refine lv_bipush (v := (-3)) hx hb dX13_beginNow_71 (by decide) ?_
              have hk_m3 : ((-3) : Int32).toInt = (-3) := by decide
              exact mz_iret (v := (-3)) hx hb hr rfl hlocks ⟨hIF, hIG, hIR, (fun _ _ => rfl), (fun _ _ => rfl), (fun _ _ => rfl), (rK1.refl rfl), (by omega), (by omega)⟩ hM hS dX13_beginNow_73
            · have hc61 : ¬ (v55.toInt = 0) := fun h9 => c9 ((fi_eq rfl (show (0 : Int32).toInt = 0 by decide)).mpr h9)
              refine lv_aload_n hx hb dX13_beginNow_63 rfl (lv_at hl 0 rfl) ?_
              refine lv_iload_n hx hb dX13_beginNow_64 rfl (lv_at hl 2 rfl) ?_
              refine mz_Vj (As := [.int p2]) (rest := []) ⟨hx, hb, hml, hown, hts⟩ hK hM hS (k_X13_isUp l D cy ld ad am hD _ _ _ _ p2 (hIF.weak) hIG hIR (by omega) (by omega)) ⟨callB_of 1 hts (wl_in mw_1075) rfl rfl rfl (htl _ mw_5) (htl _ mw_1072) hd_yX13_isUp ⟨(Nat.le_of_ble_eq_true rfl), (Nat.le_of_ble_eq_true rfl)⟩, htl _ mw_1073, htl _ mw_1074⟩ rfl hl.1 rfl (Nat.le_of_ble_eq_true rfl) dX13_beginNow_65 ⟨(Nat.le_of_ble_eq_true rfl), (Nat.le_of_ble_eq_true rfl)⟩ (fun v62 H locs hpo hM hS => ?_)
              obtain ⟨hpo63, hpo64, hpo65, hpo66⟩ := hpo
              have hq_v62 := tk_rng v62
              refine lv_if_ne (tgt := 74) hx hb dX13_beginNow_68 (by decide) (fun c9 => ?_) (fun c9 => ?_)
              · have hc68 : ¬ (v62.toInt = 0) := fun h9 => c9 ((fi_eq rfl (show (0 : Int32).toInt = 0 by decide)).mpr h9)
                refine lv_aload_n hx hb dX13_beginNow_74 rfl (lv_at hl 0 rfl) ?_
                refine lv_iconst (v := 0) hx hb dX13_beginNow_75 (by decide) ?_
                have hk_0 : (0 : Int32).toInt = 0 := by decide
                refine mz_Vv (As := [.int 0]) (rest := []) ⟨hx, hb, hml, hown, hts⟩ hK hM hS (k_X13_remember l D cy ld ad am hD _ _ _ _ 0 hIF hIG hIR (by omega) (by omega)) ⟨callB_of 1 hts (wl_in mw_1079) rfl rfl rfl (htl _ mw_5) (htl _ mw_1076) hd_yX13_remember ⟨(Nat.le_of_ble_eq_true rfl), (Nat.le_of_ble_eq_true rfl)⟩, htl _ mw_1077, htl _ mw_1078⟩ rfl hl.1 rfl (Nat.le_of_ble_eq_true rfl) dX13_beginNow_76 ⟨(Nat.le_of_ble_eq_true rfl), (Nat.le_of_ble_eq_true rfl)⟩ (fun H locs F G R S hpo hM hS => ?_)
                obtain ⟨hIF, hIG, hIR, hfr9, hrr9, hgr9⟩ := hpo
                have hFF := mz_fr (K := [8]) (Fa := Fa) hfr9 (fun _ _ => rfl) (by decide)
                have hRR := mz_fr (K := [3, 6, 7]) (Fa := Ra) hrr9 (fun _ _ => rfl) (by decide)
                have hGG := mz_fr (K := []) (Fa := Ga) hgr9 (fun _ _ => rfl) (by decide)
                have hrel : rK1 (Ra 3) (R 3) := (rK1.refl rfl).trans (rK1.refl (hrr9 3 (by decide)))
                have hf33 : R 3 12 = _ := (congrFun (hrr9 3 (by decide)) 12).trans hf33
                refine lv_aload_n hx hb dX13_beginNow_79 rfl (lv_at hl 0 rfl) ?_
                refine lv_iload_n hx hb dX13_beginNow_80 rfl (lv_at hl 1 rfl) ?_
                refine lv_iload_n hx hb dX13_beginNow_81 rfl (lv_at hl 2 rfl) ?_
                refine lv_iload_n hx hb dX13_beginNow_82 rfl (lv_at hl 3 rfl) ?_
                have hIR := hIR.bare
                refine mz_Vv (As := [.int p1, .int p2, .int p3]) (rest := []) ⟨hx, hb, hml, hown, hts⟩ hK hM hS (k_X13_layDuel l D cy ld ad am hD _ _ _ _ p1 p2 p3 hIF hIG hIR (by omega) (by omega) (by omega) (by omega) (by omega) (by omega)) ⟨callB_of 3 hts (wl_in mw_1083) rfl rfl rfl (htl _ mw_5) (htl _ mw_1080) hd_yX13_layDuel ⟨(Nat.le_of_ble_eq_true rfl), (Nat.le_of_ble_eq_true rfl)⟩, htl _ mw_1081, htl _ mw_1082⟩ rfl hl.1 rfl (Nat.le_of_ble_eq_true rfl) dX13_beginNow_83 ⟨(Nat.le_of_ble_eq_true rfl), (Nat.le_of_ble_eq_true rfl)⟩ (fun H locs F G R S hpo hM hS => ?_)
                obtain ⟨hIF, hIG, hIR, hfr9, hrr9, hgr9, hrel9, hf70, hf71, hf72, hf73⟩ := hpo
                have hFF := mz_fr (K := [8]) (Fa := Fa) hfr9 hFF (by decide)
                have hRR := mz_fr (K := [3, 6, 7]) (Fa := Ra) hrr9 hRR (by decide)
                have hGG := mz_fr (K := []) (Fa := Ga) hgr9 hGG (by decide)
                have hrel := hrel.trans hrel9.k1
                have hr_p1 : (-1) ≤ p1.toInt ∧ p1.toInt ≤ 7 := by have h9 := hIR.d; unfold dO at h9; rw [hf70] at h9; omega
                have hr_p2 : (-1) ≤ p2.toInt ∧ p2.toInt ≤ 7 := by have h9 := hIR.d; unfold dO at h9; rw [hf71] at h9; omega
                have hti_74 : p1.toInt ≠ -1 → p2.toInt ≠ -1 := by have h9 := hIR.d.2.2.2.2.2; rw [hf70, hf71] at h9; exact fun h8 => (h9 h8).1
                have hr_p1 : (-1) ≤ p1.toInt ∧ p1.toInt ≤ 7 := by have h9 := hIR.d; unfold dO at h9; rw [hf73] at h9; omega
                have hk_0 : (0 : Int32).toInt = 0 := by decide
                skip
                have hti_76 : p1.toInt ≠ -1 → p1.toInt ≠ -1 := by have h9 := hIR.d.2.2.2.2.2; rw [hf70, hf73] at h9; exact fun h8 => (h9 h8).2.2
                refine lv_iconst (v := 0) hx hb dX13_beginNow_86 (by decide) ?_
                have hk_0 : (0 : Int32).toInt = 0 := by decide
                exact mz_iret (v := 0) hx hb hr rfl hlocks ⟨hIF, hIG, hIR, hFF, hRR, hGG, hrel, (by omega), (by omega)⟩ hM hS dX13_beginNow_87
              · have hc68 : v62.toInt = 0 := (fi_eq rfl (show (0 : Int32).toInt = 0 by decide)).mp c9
                refine lv_bipush (v := (-3)) hx hb dX13_beginNow_71 (by decide) ?_
                have hk_m3 : ((-3) : Int32).toInt = (-3) := by decide
                exact mz_iret (v := (-3)) hx hb hr rfl hlocks ⟨hIF, hIG, hIR, (fun _ _ => rfl), (fun _ _ => rfl), (fun _ _ => rfl), (rK1.refl rfl), (by omega), (by omega)⟩ hM hS dX13_beginNow_73
      · have hc31 : v24.toInt = 0 := (fi_eq rfl (show (0 : Int32).toInt = 0 by decide)).mp c9
        refine lv_bipush (v := (-2)) hx hb dX13_beginNow_30 (by decide) ?_
        have hk_m2 : ((-2) : Int32).toInt = (-2) := by decide
        exact mz_iret (v := (-2)) hx hb hr rfl hlocks ⟨hIF, hIG, hIR, (fun _ _ => rfl), (fun _ _ => rfl), (fun _ _ => rfl), (rK1.refl rfl), (by omega), (by omega)⟩ hM hS dX13_beginNow_32
  · have hc13 : v2.toInt = 0 := (fi_eq rfl (show (0 : Int32).toInt = 0 by decide)).mp c9
    refine lv_iconst (v := (-1)) hx hb dX13_beginNow_12 (by decide) ?_
    have hk_m1 : ((-1) : Int32).toInt = (-1) := by decide
    exact mz_iret (v := (-1)) hx hb hr rfl hlocks ⟨hIF, hIG, hIR, (fun _ _ => rfl), (fun _ _ => rfl), (fun _ _ => rfl), (rK1.refl rfl), (by omega), (by omega)⟩ hM hS dX13_beginNow_13
end
section
theorem hd_yX13_beginNow : yX13_beginNow.cls ≠ "java/lang/invoke/MethodHandle" ∧ yX13_beginNow.cls ≠ "java/lang/invoke/VarHandle" ∧ (parseMethodDescriptor yX13_beginNow.desc).map (fun d => d.parameters.length) = some 3 := by decide +kernel
theorem dX13_begin_0 : decode cX13_begin 0 = .ok (.aload_n 0, 1) := by decide +kernel
theorem dX13_begin_1 : decode cX13_begin 1 = .ok (.iconst 0, 1) := by decide +kernel
theorem dX13_begin_2 : decode cX13_begin 2 = .ok (.putfield 170, 3) := by decide +kernel
theorem dX13_begin_5 : decode cX13_begin 5 = .ok (.aload_n 0, 1) := by decide +kernel
theorem dX13_begin_6 : decode cX13_begin 6 = .ok (.aload_n 0, 1) := by decide +kernel
theorem dX13_begin_7 : decode cX13_begin 7 = .ok (.iload_n 1, 1) := by decide +kernel
theorem dX13_begin_8 : decode cX13_begin 8 = .ok (.iload_n 2, 1) := by decide +kernel
theorem dX13_begin_9 : decode cX13_begin 9 = .ok (.iload_n 3, 1) := by decide +kernel
theorem dX13_begin_10 : decode cX13_begin 10 = .ok (.invokevirtual 462, 3) := by decide +kernel
theorem dX13_begin_13 : decode cX13_begin 13 = .ok (.invokevirtual 183, 3) := by decide +kernel
theorem dX13_begin_16 : decode cX13_begin 16 = .ok (.ireturn, 1) := by decide +kernel
set_option maxHeartbeats 4000000 in
set_option maxRecDepth 100000 in
theorem k_X13_begin (l : Launch) (D : va_G) (cy : Nat → ClassId) (ld ad : Nat → Nat) (am : Nat) (hD : mz_D ad am) (Fa : Nat → Int32) (Ga : Nat → Int64) (Ra : Nat → Nat → Int32) (Sa : Nat → Nat → Int64) (p1 : Int32) (p2 : Int32) (p3 : Int32) (hIF : mz_IF true Fa) (hIG : mz_IG Ga) (hIR : mz_IR [] true Ra) : Met l yX13_begin (wl yX13_begin cX13_begin 4 (some .int)) ({ frames := 6, cells := 0, slots := 0, locals := 350 }) (mz_p D cy ld ad am Fa Ga Ra Sa [.ref am, .int p1, .int p2, .int p3]) (mz_i D cy ad am (fun r F G R S => mz_IF true F ∧ mz_IG G ∧ mz_IR [] true R ∧ (∀ k : Nat, k ∉ ([0, 1, 8] : List Nat) → F k = Fa k) ∧ (∀ k : Nat, k ∉ ([2, 3, 6, 7] : List Nat) → R k = Ra k) ∧ (∀ k : Nat, k ∉ ([] : List Nat) → G k = Ga k) ∧ rK1 (Ra 3) (R 3) ∧ (-3) ≤ r.toInt ∧ r.toInt ≤ 0)) 0 0 (mz_W ad am) := by
  refine mz_met (y := yX13_begin) (cc := cX13_begin) (maxL := 4) (ret := (some .int)) (av := [.ref am, .int p1, .int p2, .int p3]) _ (by decide) (Nat.le_of_ble_eq_true rfl) ?_
  intro p e s m args below meth c hx hb hr hml hts htl hown hlocks hK H locs hM hS ls hl
  have hown : s.vm.findClass RX13 = some m.cls := hown
  have hl : lv_has ls 4 [(0, .ref am), (1, .int p1), (2, .int p2), (3, .int p3)] := hl
  have hr_p1 := tk_rng p1
  have hr_p2 := tk_rng p2
  have hr_p3 := tk_rng p3
  refine lv_aload_n hx hb dX13_begin_0 rfl (lv_at hl 0 rfl) ?_
  refine lv_iconst (v := 0) hx hb dX13_begin_1 (by decide) ?_
  have hk_0 : (0 : Int32).toInt = 0 := by decide
  refine mz_putI (ty := .int) (x := 0) hx hb htl hown hK hD hM hS 0 (Nat.le_of_ble_eq_true rfl) rfl (htl _ mw_286) (fun _ h9 => h9) rfl (tyX13_ok 0 (by decide)) rfl rfl dX13_begin_2 (fun H locs F hM hS hf9 hj9 => ?_)
  have hIF := hIF.put hf9 hj9 (tk_rng _).1 (tk_rng _).2 (by decide)
  have hFF := mz_frp (K := [0, 1, 8]) (Fa := Fa) hj9 (fun _ _ => rfl) (by decide)
  have hf2 := hf9
  refine lv_aload_n hx hb dX13_begin_5 rfl (lv_at hl 0 rfl) ?_
  refine lv_aload_n hx hb dX13_begin_6 rfl (lv_at hl 0 rfl) ?_
  refine lv_iload_n hx hb dX13_begin_7 rfl (lv_at hl 1 rfl) ?_
  refine lv_iload_n hx hb dX13_begin_8 rfl (lv_at hl 2 rfl) ?_
  refine lv_iload_n hx hb dX13_begin_9 rfl (lv_at hl 3 rfl) ?_
  refine mz_Vi (As := [.int p1, .int p2, .int p3]) (rest := [.ref am]) ⟨hx, hb, hml, hown, hts⟩ hK hM hS (k_X13_beginNow l D cy ld ad am hD _ _ _ _ p1 p2 p3 hIF hIG hIR) ⟨callB_of 3 hts (wl_in mw_1067) rfl rfl rfl (htl _ mw_5) (htl _ mw_1064) hd_yX13_beginNow ⟨(Nat.le_of_ble_eq_true rfl), (Nat.le_of_ble_eq_true rfl)⟩, htl _ mw_1065, htl _ mw_1066⟩ rfl hl.1 rfl (Nat.le_of_ble_eq_true rfl) dX13_begin_10 ⟨(Nat.le_of_ble_eq_true rfl), (Nat.le_of_ble_eq_true rfl)⟩ (fun v3 H locs F G R S hpo hM hS => ?_)
  obtain ⟨hIF, hIG, hIR, hfr9, hrr9, hgr9, hrel9, hpo4, hpo5⟩ := hpo
  have hq_v3 := tk_rng v3
  have hFF := mz_fr (K := [0, 1, 8]) (Fa := Fa) hfr9 hFF (by decide)
  have hRR := mz_fr (K := [2, 3, 6, 7]) (Fa := Ra) hrr9 (fun _ _ => rfl) (by decide)
  have hGG := mz_fr (K := []) (Fa := Ga) hgr9 (fun _ _ => rfl) (by decide)
  have hrel := (rK1.refl rfl).trans hrel9
  have hf2 := (hfr9 0 (by decide)).trans hf2
  refine mz_Vi (As := [.int v3]) (rest := []) ⟨hx, hb, hml, hown, hts⟩ hK hM hS (k_X13_tell l D cy ld ad am hD _ _ _ _ v3 hIF hIG hIR (by omega) (by omega)) ⟨callB_of 1 hts (wl_in mw_296) rfl rfl rfl (htl _ mw_5) (htl _ mw_293) hd_yX13_tell ⟨(Nat.le_of_ble_eq_true rfl), (Nat.le_of_ble_eq_true rfl)⟩, htl _ mw_294, htl _ mw_295⟩ rfl hl.1 rfl (Nat.le_of_ble_eq_true rfl) dX13_begin_13 ⟨(Nat.le_of_ble_eq_true rfl), (Nat.le_of_ble_eq_true rfl)⟩ (fun v10 H locs F G R S hpo hM hS => ?_)
  obtain ⟨hIF, hIG, hIR, hfr9, hrr9, hgr9, hpo11⟩ := hpo
  have hq_v10 := tk_rng v10
  have hFF := mz_fr (K := [0, 1, 8]) (Fa := Fa) hfr9 hFF (by decide)
  have hRR := mz_fr (K := [2, 3, 6, 7]) (Fa := Ra) hrr9 hRR (by decide)
  have hGG := mz_fr (K := []) (Fa := Ga) hgr9 hGG (by decide)
  have hrel : rK1 (Ra 3) (R 3) := hrel.trans (rK1.refl (hrr9 3 (by decide)))
  have hf2 := (hfr9 0 (by decide)).trans hf2
  exact mz_iret (v := v10) hx hb hr rfl hlocks ⟨hIF, hIG, hIR, hFF, hRR, hGG, hrel, (by omega), (by omega)⟩ hM hS dX13_begin_16
end
section
theorem dX13_duel_0 : decode cX13_duel 0 = .ok (.aload_n 0, 1) := by decide +kernel
theorem dX13_duel_1 : decode cX13_duel 1 = .ok (.iconst 0, 1) := by decide +kernel
theorem dX13_duel_2 : decode cX13_duel 2 = .ok (.putfield 170, 3) := by decide +kernel
theorem dX13_duel_5 : decode cX13_duel 5 = .ok (.iload_n 1, 1) := by decide +kernel
theorem dX13_duel_6 : decode cX13_duel 6 = .ok (.i2l, 1) := by decide +kernel
theorem dX13_duel_7 : decode cX13_duel 7 = .ok (.lconst 0, 1) := by decide +kernel
theorem dX13_duel_8 : decode cX13_duel 8 = .ok (.ldc2_w 466, 3) := by decide +kernel
theorem dX13_duel_11 : decode cX13_duel 11 = .ok (.invokestatic 190, 3) := by decide +kernel
theorem dX13_duel_14 : decode cX13_duel 14 = .ok (.ifCond .eq 11, 3) := by decide +kernel
theorem dX13_duel_25 : decode cX13_duel 25 = .ok (.iconst (-1), 1) := by decide +kernel
theorem dX13_duel_26 : decode cX13_duel 26 = .ok (.ireturn, 1) := by decide +kernel
theorem dX13_duel_17 : decode cX13_duel 17 = .ok (.aload_n 0, 1) := by decide +kernel
theorem dX13_duel_18 : decode cX13_duel 18 = .ok (.iload_n 1, 1) := by decide +kernel
theorem dX13_duel_19 : decode cX13_duel 19 = .ok (.invokevirtual 194, 3) := by decide +kernel
theorem dX13_duel_22 : decode cX13_duel 22 = .ok (.goto 4, 3) := by decide +kernel
set_option maxHeartbeats 4000000 in
set_option maxRecDepth 100000 in
theorem k_X13_duel (l : Launch) (D : va_G) (cy : Nat → ClassId) (ld ad : Nat → Nat) (am : Nat) (hD : mz_D ad am) (Fa : Nat → Int32) (Ga : Nat → Int64) (Ra : Nat → Nat → Int32) (Sa : Nat → Nat → Int64) (p1 : Int32) (hIF : mz_IF true Fa) (hIG : mz_IG Ga) (hIR : mz_IR [] true Ra) : Met l yX13_duel (wl yX13_duel cX13_duel 2 (some .int)) ({ frames := 4, cells := 0, slots := 0, locals := 210 }) (mz_p D cy ld ad am Fa Ga Ra Sa [.ref am, .int p1]) (mz_i D cy ad am (fun r F G R S => mz_IF true F ∧ mz_IG G ∧ mz_IR [] true R ∧ (∀ k : Nat, k ∉ ([0] : List Nat) → F k = Fa k) ∧ (∀ k : Nat, k ∉ ([] : List Nat) → R k = Ra k) ∧ (∀ k : Nat, k ∉ ([] : List Nat) → G k = Ga k))) 0 0 (mz_W ad am) := by
  refine mz_met (y := yX13_duel) (cc := cX13_duel) (maxL := 2) (ret := (some .int)) (av := [.ref am, .int p1]) _ (by decide) (Nat.le_of_ble_eq_true rfl) ?_
  intro p e s m args below meth c hx hb hr hml hts htl hown hlocks hK H locs hM hS ls hl
  have hown : s.vm.findClass RX13 = some m.cls := hown
  have hl : lv_has ls 2 [(0, .ref am), (1, .int p1)] := hl
  have hr_p1 := tk_rng p1
  refine lv_aload_n hx hb dX13_duel_0 rfl (lv_at hl 0 rfl) ?_
  refine lv_iconst (v := 0) hx hb dX13_duel_1 (by decide) ?_
  have hk_0 : (0 : Int32).toInt = 0 := by decide
  refine mz_putI (ty := .int) (x := 0) hx hb htl hown hK hD hM hS 0 (Nat.le_of_ble_eq_true rfl) rfl (htl _ mw_286) (fun _ h9 => h9) rfl (tyX13_ok 0 (by decide)) rfl rfl dX13_duel_2 (fun H locs F hM hS hf9 hj9 => ?_)
  have hIF := hIF.put hf9 hj9 (tk_rng _).1 (tk_rng _).2 (by decide)
  have hFF := mz_frp (K := [0]) (Fa := Fa) hj9 (fun _ _ => rfl) (by decide)
  have hf2 := hf9
  refine lv_iload_n hx hb dX13_duel_5 rfl (lv_at hl 1 rfl) ?_
  obtain ⟨w3, e_w3, h_w3⟩ : ∃ z : Int64, p1.toInt64 = z ∧ z.toInt = p1.toInt := ⟨_, rfl, fl_w _⟩
  refine lv_i2l (v := w3) hx hb dX13_duel_6 e_w3 ?_
  refine lv_lconst (v := 0) hx hb dX13_duel_7 (by decide) ?_
  refine lv_ldc2 hx hb hown (htl _ mw_1238) dX13_duel_8 ?_
  have hk_0 : (0 : Int64).toInt = 0 := by decide
  have hk_5 : (5 : Int64).toInt = 5 := by decide
  refine mz_Sj (As := [.long w3, .long 0, .long 5]) (rest := []) ⟨hx, hb, hml, hown, hts⟩ hK hM hS (k_X13_in l D cy ld ad am hD _ _ _ _ w3 0 5) ⟨callB_of 3 hts (wl_in mw_292) rfl rfl rfl (htl _ mw_5) (htl _ mw_290) hd_yX13_in ⟨(Nat.le_of_ble_eq_true rfl), (Nat.le_of_ble_eq_true rfl)⟩, htl _ mw_291⟩ rfl hl.1 rfl (Nat.le_of_ble_eq_true rfl) dX13_duel_11 ⟨(Nat.le_of_ble_eq_true rfl), (Nat.le_of_ble_eq_true rfl)⟩ (fun v4 H locs hpo hM hS => ?_)
  obtain ⟨hpo5, hpo6, hpo10, hpo11, hpo12, hpo13⟩ := hpo
  have hq_v4 := tk_rng v4
  refine lv_if_eq (tgt := 25) hx hb dX13_duel_14 (by decide) (fun c9 => ?_) (fun c9 => ?_)
  · have hc15 : v4.toInt = 0 := (fi_eq rfl (show (0 : Int32).toInt = 0 by decide)).mp c9
    refine lv_iconst (v := (-1)) hx hb dX13_duel_25 (by decide) ?_
    have hk_m1 : ((-1) : Int32).toInt = (-1) := by decide
    exact mz_iret (v := (-1)) hx hb hr rfl hlocks ⟨hIF, hIG, hIR, hFF, (fun _ _ => rfl), (fun _ _ => rfl)⟩ hM hS dX13_duel_26
  · have hc15 : ¬ (v4.toInt = 0) := fun h9 => c9 ((fi_eq rfl (show (0 : Int32).toInt = 0 by decide)).mpr h9)
    have hwk_16 : 0 ≤ w3.toInt ∧ w3.toInt ≤ 5 := by omega
    refine lv_aload_n hx hb dX13_duel_17 rfl (lv_at hl 0 rfl) ?_
    refine lv_iload_n hx hb dX13_duel_18 rfl (lv_at hl 1 rfl) ?_
    refine mz_Vj (As := [.int p1]) (rest := []) ⟨hx, hb, hml, hown, hts⟩ hK hM hS (k_X13_inDuel l D cy ld ad am hD _ _ _ _ p1 (hIF.weak) hIG hIR (by omega) (by omega)) ⟨callB_of 1 hts (wl_in mw_1046) rfl rfl rfl (htl _ mw_5) (htl _ mw_1043) hd_yX13_inDuel ⟨(Nat.le_of_ble_eq_true rfl), (Nat.le_of_ble_eq_true rfl)⟩, htl _ mw_1044, htl _ mw_1045⟩ rfl hl.1 rfl (Nat.le_of_ble_eq_true rfl) dX13_duel_19 ⟨(Nat.le_of_ble_eq_true rfl), (Nat.le_of_ble_eq_true rfl)⟩ (fun v17 H locs hpo hM hS => ?_)
    have hq_v17 := tk_rng v17
    refine lv_goto (tgt := 26) hx hb dX13_duel_22 (by decide) ?_
    exact mz_iret (v := v17) hx hb hr rfl hlocks ⟨hIF, hIG, hIR, hFF, (fun _ _ => rfl), (fun _ _ => rfl)⟩ hM hS dX13_duel_26
end
