theorem dX13_endDuel_0 : decode cX13_endDuel 0 = .ok (.iconst 0, 1) := by decide +kernel
theorem dX13_endDuel_1 : decode cX13_endDuel 1 = .ok (.istore_n 1, 1) := by decide +kernel
theorem dX13_endDuel_2 : decode cX13_endDuel 2 = .ok (.iload_n 1, 1) := by decide +kernel
theorem dX13_endDuel_3 : decode cX13_endDuel 3 = .ok (.bipush 6, 2) := by decide +kernel
theorem dX13_endDuel_5 : decode cX13_endDuel 5 = .ok (.if_icmp .ge 19, 3) := by decide +kernel
theorem dX13_endDuel_8 : decode cX13_endDuel 8 = .ok (.aload_n 0, 1) := by decide +kernel
theorem dX13_endDuel_9 : decode cX13_endDuel 9 = .ok (.getfield 13, 3) := by decide +kernel
theorem dX13_endDuel_12 : decode cX13_endDuel 12 = .ok (.bipush 12, 2) := by decide +kernel
theorem dX13_endDuel_14 : decode cX13_endDuel 14 = .ok (.iload_n 1, 1) := by decide +kernel
theorem dX13_endDuel_15 : decode cX13_endDuel 15 = .ok (.iadd, 1) := by decide +kernel
theorem dX13_endDuel_16 : decode cX13_endDuel 16 = .ok (.iconst (-1), 1) := by decide +kernel
theorem dX13_endDuel_17 : decode cX13_endDuel 17 = .ok (.iastore, 1) := by decide +kernel
theorem dX13_endDuel_18 : decode cX13_endDuel 18 = .ok (.iinc 1 1, 3) := by decide +kernel
theorem dX13_endDuel_21 : decode cX13_endDuel 21 = .ok (.goto (-19), 3) := by decide +kernel
theorem dX13_endDuel_24 : decode cX13_endDuel 24 = .ok (.return_, 1) := by decide +kernel
set_option maxHeartbeats 4000000 in
set_option maxRecDepth 100000 in
theorem k_X13_endDuel (l : Launch) (D : va_G) (cy : Nat → ClassId) (ld ad : Nat → Nat) (am : Nat) (hD : mz_D ad am) (Fa : Nat → Int32) (Ga : Nat → Int64) (Ra : Nat → Nat → Int32) (Sa : Nat → Nat → Int64) (hIF : mz_IF true Fa) (hIG : mz_IG Ga) (hIR : mz_IR [] false Ra) : Met l yX13_endDuel (wl yX13_endDuel cX13_endDuel 2 none) ({ frames := 3, cells := 0, slots := 0, locals := 140 }) (mz_p D cy ld ad am Fa Ga Ra Sa [.ref am]) (mz_w D cy ad am (fun F G R S => mz_IF true F ∧ mz_IG G ∧ mz_IR [] true R ∧ (∀ k : Nat, k ∉ ([] : List Nat) → F k = Fa k) ∧ (∀ k : Nat, k ∉ ([3] : List Nat) → R k = Ra k) ∧ (∀ k : Nat, k ∉ ([] : List Nat) → G k = Ga k) ∧ rK2 (Ra 3) (R 3) ∧ R 3 12 = (-1) ∧ R 3 13 = (-1) ∧ R 3 14 = (-1) ∧ R 3 15 = (-1) ∧ R 3 16 = (-1))) 0 0 (mz_W ad am) := by
  refine mz_met (y := yX13_endDuel) (cc := cX13_endDuel) (maxL := 2) (ret := none) (av := [.ref am]) _ (by decide) (Nat.le_of_ble_eq_true rfl) ?_
  intro p e s m args below meth c hx hb hr hml hts htl hown hlocks hK H locs hM hS ls hl
  have hown : s.vm.findClass RX13 = some m.cls := hown
  have hl : lv_has ls 2 [(0, .ref am)] := hl
  refine lv_iconst (v := 0) hx hb dX13_endDuel_0 (by decide) ?_
  refine lv_istore_n (lv' := [(1, .int 0), (0, .ref am)]) hx hb dX13_endDuel_1 rfl hl (by decide) rfl (fun ls hl => ?_)
  refine lv_iload_n hx hb dX13_endDuel_2 rfl (lv_at hl 0 rfl) ?_
  refine lv_bipush (v := 6) hx hb dX13_endDuel_3 (by decide) ?_
  refine lv_icmp_ge (tgt := 24) hx hb dX13_endDuel_5 (by decide) (fun c9 => absurd c9 (by decide)) (fun _ => ?_)
  refine lv_aload_n hx hb dX13_endDuel_8 rfl (lv_at hl 1 rfl) ?_
  refine mz_getR hx hb htl hown hK hM 3 (Nat.le_of_ble_eq_true rfl) (Nat.le_of_ble_eq_true rfl) (htl _ mw_188) (fun _ h9 => h9) dX13_endDuel_9 ?_
  refine lv_bipush (v := 12) hx hb dX13_endDuel_12 (by decide) ?_
  refine lv_iload_n hx hb dX13_endDuel_14 rfl (lv_at hl 0 rfl) ?_
  refine lv_iadd hx hb dX13_endDuel_15 ?_
  refine fx_ti (v := 12) (by decide) ?_
  refine lv_iconst (v := (-1)) hx hb dX13_endDuel_16 (by decide) ?_
  have hk_12 : (12 : Int32).toInt = 12 := by decide
  have hk_m1 : ((-1) : Int32).toInt = (-1) := by decide
  refine mz_iast (x := (-1)) hx hb hK hD hM hS 3 (Nat.le_of_ble_eq_true rfl) rfl (nn := 5560) rfl (I := 12) (by decide) (by decide) (by decide) dX13_endDuel_17 (fun H locs R hM hS hw9 hj9 => ?_)
  have hIR := hIR.put hw9 hj9 (mz_r3 (hIR.at 3) (I := 12) (by decide) (by omega) (by omega) (fun h9 => by first | (cases h9; done) | omega) (by unfold mE; omega))
  have hRR := mz_frp (K := [3]) (Fa := Ra) hj9 (fun _ _ => rfl) (by decide)
  have hrel := rK2.put (I := 12) (rK2.refl rfl) hw9 (by decide) (by omega) (by omega) (by omega)
  have hf2 : R 3 12 = (-1) := (congrFun hw9 12).trans pk_us
  refine lv_iinc (v := 1) (lv' := [(1, .int 1), (0, .ref am)]) hx hb dX13_endDuel_18 hl (k := 0) rfl (by decide) (by decide) rfl (fun ls hl => ?_)
  refine lv_goto (tgt := 2) hx hb dX13_endDuel_21 (by decide) ?_
  refine lv_iload_n hx hb dX13_endDuel_2 rfl (lv_at hl 0 rfl) ?_
  refine lv_bipush (v := 6) hx hb dX13_endDuel_3 (by decide) ?_
  refine lv_icmp_ge (tgt := 24) hx hb dX13_endDuel_5 (by decide) (fun c9 => absurd c9 (by decide)) (fun _ => ?_)
  refine lv_aload_n hx hb dX13_endDuel_8 rfl (lv_at hl 1 rfl) ?_
  refine mz_getR hx hb htl hown hK hM 3 (Nat.le_of_ble_eq_true rfl) (Nat.le_of_ble_eq_true rfl) (htl _ mw_188) (fun _ h9 => h9) dX13_endDuel_9 ?_
  refine lv_bipush (v := 12) hx hb dX13_endDuel_12 (by decide) ?_
  refine lv_iload_n hx hb dX13_endDuel_14 rfl (lv_at hl 0 rfl) ?_
  refine lv_iadd hx hb dX13_endDuel_15 ?_
  refine fx_ti (v := 13) (by decide) ?_
  refine lv_iconst (v := (-1)) hx hb dX13_endDuel_16 (by decide) ?_
  have hk_13 : (13 : Int32).toInt = 13 := by decide
  have hk_m1 : ((-1) : Int32).toInt = (-1) := by decide
  refine mz_iast (x := (-1)) hx hb hK hD hM hS 3 (Nat.le_of_ble_eq_true rfl) rfl (nn := 5560) rfl (I := 13) (by decide) (by decide) (by decide) dX13_endDuel_17 (fun H locs R hM hS hw9 hj9 => ?_)
  have hIR := hIR.put hw9 hj9 (mz_r3 (hIR.at 3) (I := 13) (by decide) (by omega) (by omega) (fun h9 => by first | (cases h9; done) | omega) (by unfold mE; omega))
  have hRR := mz_frp (K := [3]) (Fa := Ra) hj9 hRR (by decide)
  have hrel := rK2.put (I := 13) hrel hw9 (by decide) (by omega) (by omega) (by omega)
  have hf2 : R 3 12 = _ := (congrFun hw9 12).trans ((pk_un (by decide)).trans hf2)
  have hf4 : R 3 13 = (-1) := (congrFun hw9 13).trans pk_us
  refine lv_iinc (v := 2) (lv' := [(1, .int 2), (0, .ref am)]) hx hb dX13_endDuel_18 hl (k := 0) rfl (by decide) (by decide) rfl (fun ls hl => ?_)
  refine lv_goto (tgt := 2) hx hb dX13_endDuel_21 (by decide) ?_
  refine lv_iload_n hx hb dX13_endDuel_2 rfl (lv_at hl 0 rfl) ?_
  refine lv_bipush (v := 6) hx hb dX13_endDuel_3 (by decide) ?_
  refine lv_icmp_ge (tgt := 24) hx hb dX13_endDuel_5 (by decide) (fun c9 => absurd c9 (by decide)) (fun _ => ?_)
  refine lv_aload_n hx hb dX13_endDuel_8 rfl (lv_at hl 1 rfl) ?_
  refine mz_getR hx hb htl hown hK hM 3 (Nat.le_of_ble_eq_true rfl) (Nat.le_of_ble_eq_true rfl) (htl _ mw_188) (fun _ h9 => h9) dX13_endDuel_9 ?_
  refine lv_bipush (v := 12) hx hb dX13_endDuel_12 (by decide) ?_
  refine lv_iload_n hx hb dX13_endDuel_14 rfl (lv_at hl 0 rfl) ?_
  refine lv_iadd hx hb dX13_endDuel_15 ?_
  refine fx_ti (v := 14) (by decide) ?_
  refine lv_iconst (v := (-1)) hx hb dX13_endDuel_16 (by decide) ?_
  have hk_14 : (14 : Int32).toInt = 14 := by decide
  have hk_m1 : ((-1) : Int32).toInt = (-1) := by decide
  refine mz_iast (x := (-1)) hx hb hK hD hM hS 3 (Nat.le_of_ble_eq_true rfl) rfl (nn := 5560) rfl (I := 14) (by decide) (by decide) (by decide) dX13_endDuel_17 (fun H locs R hM hS hw9 hj9 => ?_)
  have hIR := hIR.put hw9 hj9 (mz_r3 (hIR.at 3) (I := 14) (by decide) (by omega) (by omega) (fun h9 => by first | (cases h9; done) | omega) (by unfold mE; omega))
  have hRR := mz_frp (K := [3]) (Fa := Ra) hj9 hRR (by decide)
  have hrel := rK2.put (I := 14) hrel hw9 (by decide) (by omega) (by omega) (by omega)
  have hf2 : R 3 12 = _ := (congrFun hw9 12).trans ((pk_un (by decide)).trans hf2)
  have hf4 : R 3 13 = _ := (congrFun hw9 13).trans ((pk_un (by decide)).trans hf4)
  have hf6 : R 3 14 = (-1) := (congrFun hw9 14).trans pk_us
  refine lv_iinc (v := 3) (lv' := [(1, .int 3), (0, .ref am)]) hx hb dX13_endDuel_18 hl (k := 0) rfl (by decide) (by decide) rfl (fun ls hl => ?_)
  refine lv_goto (tgt := 2) hx hb dX13_endDuel_21 (by decide) ?_
  refine lv_iload_n hx hb dX13_endDuel_2 rfl (lv_at hl 0 rfl) ?_
  refine lv_bipush (v := 6) hx hb dX13_endDuel_3 (by decide) ?_
  refine lv_icmp_ge (tgt := 24) hx hb dX13_endDuel_5 (by decide) (fun c9 => absurd c9 (by decide)) (fun _ => ?_)
  refine lv_aload_n hx hb dX13_endDuel_8 rfl (lv_at hl 1 rfl) ?_
  refine mz_getR hx hb htl hown hK hM 3 (Nat.le_of_ble_eq_true rfl) (Nat.le_of_ble_eq_true rfl) (htl _ mw_188) (fun _ h9 => h9) dX13_endDuel_9 ?_
  refine lv_bipush (v := 12) hx hb dX13_endDuel_12 (by decide) ?_
  refine lv_iload_n hx hb dX13_endDuel_14 rfl (lv_at hl 0 rfl) ?_
  refine lv_iadd hx hb dX13_endDuel_15 ?_
  refine fx_ti (v := 15) (by decide) ?_
  refine lv_iconst (v := (-1)) hx hb dX13_endDuel_16 (by decide) ?_
  have hk_15 : (15 : Int32).toInt = 15 := by decide
  have hk_m1 : ((-1) : Int32).toInt = (-1) := by decide
  refine mz_iast (x := (-1)) hx hb hK hD hM hS 3 (Nat.le_of_ble_eq_true rfl) rfl (nn := 5560) rfl (I := 15) (by decide) (by decide) (by decide) dX13_endDuel_17 (fun H locs R hM hS hw9 hj9 => ?_)
  have hIR := hIR.put hw9 hj9 (mz_r3 (hIR.at 3) (I := 15) (by decide) (by omega) (by omega) (fun h9 => by first | (cases h9; done) | omega) (by unfold mE; omega))
  have hRR := mz_frp (K := [3]) (Fa := Ra) hj9 hRR (by decide)
  have hrel := rK2.put (I := 15) hrel hw9 (by decide) (by omega) (by omega) (by omega)
  have hf2 : R 3 12 = _ := (congrFun hw9 12).trans ((pk_un (by decide)).trans hf2)
  have hf4 : R 3 13 = _ := (congrFun hw9 13).trans ((pk_un (by decide)).trans hf4)
  have hf6 : R 3 14 = _ := (congrFun hw9 14).trans ((pk_un (by decide)).trans hf6)
  have hf11 : R 3 15 = (-1) := (congrFun hw9 15).trans pk_us
  refine lv_iinc (v := 4) (lv' := [(1, .int 4), (0, .ref am)]) hx hb dX13_endDuel_18 hl (k := 0) rfl (by decide) (by decide) rfl (fun ls hl => ?_)
  refine lv_goto (tgt := 2) hx hb dX13_endDuel_21 (by decide) ?_
  refine lv_iload_n hx hb dX13_endDuel_2 rfl (lv_at hl 0 rfl) ?_
  refine lv_bipush (v := 6) hx hb dX13_endDuel_3 (by decide) ?_
  refine lv_icmp_ge (tgt := 24) hx hb dX13_endDuel_5 (by decide) (fun c9 => absurd c9 (by decide)) (fun _ => ?_)
  refine lv_aload_n hx hb dX13_endDuel_8 rfl (lv_at hl 1 rfl) ?_
  refine mz_getR hx hb htl hown hK hM 3 (Nat.le_of_ble_eq_true rfl) (Nat.le_of_ble_eq_true rfl) (htl _ mw_188) (fun _ h9 => h9) dX13_endDuel_9 ?_
  refine lv_bipush (v := 12) hx hb dX13_endDuel_12 (by decide) ?_
  refine lv_iload_n hx hb dX13_endDuel_14 rfl (lv_at hl 0 rfl) ?_
  refine lv_iadd hx hb dX13_endDuel_15 ?_
  refine fx_ti (v := 16) (by decide) ?_
  refine lv_iconst (v := (-1)) hx hb dX13_endDuel_16 (by decide) ?_
  have hk_16 : (16 : Int32).toInt = 16 := by decide
  have hk_m1 : ((-1) : Int32).toInt = (-1) := by decide
  refine mz_iast (x := (-1)) hx hb hK hD hM hS 3 (Nat.le_of_ble_eq_true rfl) rfl (nn := 5560) rfl (I := 16) (by decide) (by decide) (by decide) dX13_endDuel_17 (fun H locs R hM hS hw9 hj9 => ?_)
  have hIR := hIR.put hw9 hj9 (mz_r3 (hIR.at 3) (I := 16) (by decide) (by omega) (by omega) (fun h9 => by first | (cases h9; done) | omega) (by unfold mE; omega))
  have hRR := mz_frp (K := [3]) (Fa := Ra) hj9 hRR (by decide)
  have hrel := rK2.put (I := 16) hrel hw9 (by decide) (by omega) (by omega) (by omega)
  have hf2 : R 3 12 = _ := (congrFun hw9 12).trans ((pk_un (by decide)).trans hf2)
  have hf4 : R 3 13 = _ := (congrFun hw9 13).trans ((pk_un (by decide)).trans hf4)
  have hf6 : R 3 14 = _ := (congrFun hw9 14).trans ((pk_un (by decide)).trans hf6)
  have hf11 : R 3 15 = _ := (congrFun hw9 15).trans ((pk_un (by decide)).trans hf11)
  have hf13 : R 3 16 = (-1) := (congrFun hw9 16).trans pk_us
  refine lv_iinc (v := 5) (lv' := [(1, .int 5), (0, .ref am)]) hx hb dX13_endDuel_18 hl (k := 0) rfl (by decide) (by decide) rfl (fun ls hl => ?_)
  refine lv_goto (tgt := 2) hx hb dX13_endDuel_21 (by decide) ?_
  refine lv_iload_n hx hb dX13_endDuel_2 rfl (lv_at hl 0 rfl) ?_
  refine lv_bipush (v := 6) hx hb dX13_endDuel_3 (by decide) ?_
  refine lv_icmp_ge (tgt := 24) hx hb dX13_endDuel_5 (by decide) (fun c9 => absurd c9 (by decide)) (fun _ => ?_)
  refine lv_aload_n hx hb dX13_endDuel_8 rfl (lv_at hl 1 rfl) ?_
  refine mz_getR hx hb htl hown hK hM 3 (Nat.le_of_ble_eq_true rfl) (Nat.le_of_ble_eq_true rfl) (htl _ mw_188) (fun _ h9 => h9) dX13_endDuel_9 ?_
  refine lv_bipush (v := 12) hx hb dX13_endDuel_12 (by decide) ?_
  refine lv_iload_n hx hb dX13_endDuel_14 rfl (lv_at hl 0 rfl) ?_
  refine lv_iadd hx hb dX13_endDuel_15 ?_
  refine fx_ti (v := 17) (by decide) ?_
  refine lv_iconst (v := (-1)) hx hb dX13_endDuel_16 (by decide) ?_
  have hk_17 : (17 : Int32).toInt = 17 := by decide
  have hk_m1 : ((-1) : Int32).toInt = (-1) := by decide
  refine mz_iast (x := (-1)) hx hb hK hD hM hS 3 (Nat.le_of_ble_eq_true rfl) rfl (nn := 5560) rfl (I := 17) (by decide) (by decide) (by decide) dX13_endDuel_17 (fun H locs R hM hS hw9 hj9 => ?_)
  have hIR := hIR.put hw9 hj9 (mz_r3 (hIR.at 3) (I := 17) (by decide) (by omega) (by omega) (fun h9 => by first | (cases h9; done) | omega) (by unfold mE; omega))
  have hRR := mz_frp (K := [3]) (Fa := Ra) hj9 hRR (by decide)
  have hrel := rK2.put (I := 17) hrel hw9 (by decide) (by omega) (by omega) (by omega)
  have hf2 : R 3 12 = _ := (congrFun hw9 12).trans ((pk_un (by decide)).trans hf2)
  have hf4 : R 3 13 = _ := (congrFun hw9 13).trans ((pk_un (by decide)).trans hf4)
  have hf6 : R 3 14 = _ := (congrFun hw9 14).trans ((pk_un (by decide)).trans hf6)
  have hf11 : R 3 15 = _ := (congrFun hw9 15).trans ((pk_un (by decide)).trans hf11)
  have hf13 : R 3 16 = _ := (congrFun hw9 16).trans ((pk_un (by decide)).trans hf13)
  have hf15 : R 3 17 = (-1) := (congrFun hw9 17).trans pk_us
  refine lv_iinc (v := 6) (lv' := [(1, .int 6), (0, .ref am)]) hx hb dX13_endDuel_18 hl (k := 0) rfl (by decide) (by decide) rfl (fun ls hl => ?_)
  refine lv_goto (tgt := 2) hx hb dX13_endDuel_21 (by decide) ?_
  refine lv_iload_n hx hb dX13_endDuel_2 rfl (lv_at hl 0 rfl) ?_
  refine lv_bipush (v := 6) hx hb dX13_endDuel_3 (by decide) ?_
  refine lv_icmp_ge (tgt := 24) hx hb dX13_endDuel_5 (by decide) (fun _ => ?_) (fun c9 => absurd (by decide) c9)
  have hk_m1 : ((-1) : Int32).toInt = (-1) := by decide
  have hk_m1 : ((-1) : Int32).toInt = (-1) := by decide
  have hk_m1 : ((-1) : Int32).toInt = (-1) := by decide
  have hk_m1 : ((-1) : Int32).toInt = (-1) := by decide
  have hk_m1 : ((-1) : Int32).toInt = (-1) := by decide
  have hIR := hIR.duel (by unfold dO; rw [hf2, show R 3 (12 + 1) = _ from hf4, show R 3 (12 + 2) = _ from hf6, show R 3 (12 + 3) = _ from hf11, show R 3 (12 + 4) = _ from hf13]; omega)
  exact mz_vret hx hb hr hlocks ⟨hIF, hIG, hIR, (fun _ _ => rfl), hRR, (fun _ _ => rfl), hrel, hf2, hf4, hf6, hf11, hf13⟩ hM hS dX13_endDuel_24
