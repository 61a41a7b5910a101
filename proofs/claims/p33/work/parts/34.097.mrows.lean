theorem hd_yX13_seenBy : yX13_seenBy.cls ≠ "java/lang/invoke/MethodHandle" ∧ yX13_seenBy.cls ≠ "java/lang/invoke/VarHandle" ∧ (parseMethodDescriptor yX13_seenBy.desc).map (fun d => d.parameters.length) = some 2 := by decide +kernel
theorem dX13_weigh_0 : decode cX13_weigh 0 = .ok (.aload_n 0, 1) := by decide +kernel
theorem dX13_weigh_1 : decode cX13_weigh 1 = .ok (.getfield 119, 3) := by decide +kernel
theorem dX13_weigh_4 : decode cX13_weigh 4 = .ok (.iload_n 1, 1) := by decide +kernel
theorem dX13_weigh_5 : decode cX13_weigh 5 = .ok (.iaload, 1) := by decide +kernel
theorem dX13_weigh_6 : decode cX13_weigh 6 = .ok (.iconst (-1), 1) := by decide +kernel
theorem dX13_weigh_7 : decode cX13_weigh 7 = .ok (.if_icmp .eq 31, 3) := by decide +kernel
theorem dX13_weigh_38 : decode cX13_weigh 38 = .ok (.aload_n 0, 1) := by decide +kernel
theorem dX13_weigh_39 : decode cX13_weigh 39 = .ok (.getfield 116, 3) := by decide +kernel
theorem dX13_weigh_42 : decode cX13_weigh 42 = .ok (.iload_n 1, 1) := by decide +kernel
theorem dX13_weigh_43 : decode cX13_weigh 43 = .ok (.iload_n 2, 1) := by decide +kernel
theorem dX13_weigh_44 : decode cX13_weigh 44 = .ok (.iastore, 1) := by decide +kernel
theorem dX13_weigh_45 : decode cX13_weigh 45 = .ok (.aload_n 0, 1) := by decide +kernel
theorem dX13_weigh_46 : decode cX13_weigh 46 = .ok (.getfield 119, 3) := by decide +kernel
theorem dX13_weigh_49 : decode cX13_weigh 49 = .ok (.iload_n 1, 1) := by decide +kernel
theorem dX13_weigh_50 : decode cX13_weigh 50 = .ok (.aload_n 0, 1) := by decide +kernel
theorem dX13_weigh_51 : decode cX13_weigh 51 = .ok (.getfield 113, 3) := by decide +kernel
theorem dX13_weigh_54 : decode cX13_weigh 54 = .ok (.iload_n 1, 1) := by decide +kernel
theorem dX13_weigh_55 : decode cX13_weigh 55 = .ok (.iaload, 1) := by decide +kernel
theorem dX13_weigh_56 : decode cX13_weigh 56 = .ok (.iastore, 1) := by decide +kernel
theorem dX13_weigh_57 : decode cX13_weigh 57 = .ok (.return_, 1) := by decide +kernel
theorem dX13_weigh_10 : decode cX13_weigh 10 = .ok (.iload_n 2, 1) := by decide +kernel
theorem dX13_weigh_11 : decode cX13_weigh 11 = .ok (.aload_n 0, 1) := by decide +kernel
theorem dX13_weigh_12 : decode cX13_weigh 12 = .ok (.getfield 122, 3) := by decide +kernel
theorem dX13_weigh_15 : decode cX13_weigh 15 = .ok (.iload_n 1, 1) := by decide +kernel
theorem dX13_weigh_16 : decode cX13_weigh 16 = .ok (.iaload, 1) := by decide +kernel
theorem dX13_weigh_17 : decode cX13_weigh 17 = .ok (.invokestatic 492, 3) := by decide +kernel
theorem dX13_weigh_20 : decode cX13_weigh 20 = .ok (.aload_n 0, 1) := by decide +kernel
theorem dX13_weigh_21 : decode cX13_weigh 21 = .ok (.getfield 116, 3) := by decide +kernel
theorem dX13_weigh_24 : decode cX13_weigh 24 = .ok (.iload_n 1, 1) := by decide +kernel
theorem dX13_weigh_25 : decode cX13_weigh 25 = .ok (.iaload, 1) := by decide +kernel
theorem dX13_weigh_26 : decode cX13_weigh 26 = .ok (.aload_n 0, 1) := by decide +kernel
theorem dX13_weigh_27 : decode cX13_weigh 27 = .ok (.getfield 122, 3) := by decide +kernel
theorem dX13_weigh_30 : decode cX13_weigh 30 = .ok (.iload_n 1, 1) := by decide +kernel
theorem dX13_weigh_31 : decode cX13_weigh 31 = .ok (.iaload, 1) := by decide +kernel
theorem dX13_weigh_32 : decode cX13_weigh 32 = .ok (.invokestatic 492, 3) := by decide +kernel
theorem dX13_weigh_35 : decode cX13_weigh 35 = .ok (.if_icmp .le 22, 3) := by decide +kernel
set_option maxHeartbeats 4000000 in
set_option maxRecDepth 100000 in
theorem k_X13_weigh (l : Launch) (D : va_G) (cy : Nat → ClassId) (ld ad : Nat → Nat) (am : Nat) (hD : mz_D ad am) (Fa : Nat → Int32) (Ga : Nat → Int64) (Ra : Nat → Nat → Int32) (Sa : Nat → Nat → Int64) (p1 : Int32) (p2 : Int32) (hIF : mz_IF true Fa) (hIG : mz_IG Ga) (hIR : mz_IR [] true Ra) (hp_0 : 0 ≤ p1.toInt) (hp_1 : p1.toInt ≤ 4) : Met l yX13_weigh (wl yX13_weigh cX13_weigh 3 none) ({ frames := 4, cells := 0, slots := 0, locals := 210 }) (mz_p D cy ld ad am Fa Ga Ra Sa [.ref am, .int p1, .int p2]) (mz_w D cy ad am (fun F G R S => mz_IF true F ∧ mz_IG G ∧ mz_IR [] true R ∧ (∀ k : Nat, k ∉ ([] : List Nat) → F k = Fa k) ∧ (∀ k : Nat, k ∉ ([44, 45] : List Nat) → R k = Ra k) ∧ (∀ k : Nat, k ∉ ([] : List Nat) → G k = Ga k))) 0 0 (mz_W ad am) := by
  refine mz_met (y := yX13_weigh) (cc := cX13_weigh) (maxL := 3) (ret := none) (av := [.ref am, .int p1, .int p2]) _ (by decide) (Nat.le_of_ble_eq_true rfl) ?_
  intro p e s m args below meth c hx hb hr hml hts htl hown hlocks hK H locs hM hS ls hl
  have hown : s.vm.findClass RX13 = some m.cls := hown
  have hl : lv_has ls 3 [(0, .ref am), (1, .int p1), (2, .int p2)] := hl
  have hr_p1 := tk_rng p1
  have hr_p2 := tk_rng p2
  refine lv_aload_n hx hb dX13_weigh_0 rfl (lv_at hl 0 rfl) ?_
  refine mz_getR hx hb htl hown hK hM 45 (Nat.le_of_ble_eq_true rfl) (Nat.le_of_ble_eq_true rfl) (htl _ mw_229) (fun _ h9 => h9) dX13_weigh_1 ?_
  refine lv_iload_n hx hb dX13_weigh_4 rfl (lv_at hl 1 rfl) ?_
  refine mz_iald hx hb hK hM 45 (Nat.le_of_ble_eq_true rfl) rfl (nn := 5) rfl rfl (by omega) (by omega) dX13_weigh_5 (fun v1 e_v1 => ?_)
  have hq_v1 := tk_rng v1
  refine lv_iconst (v := (-1)) hx hb dX13_weigh_6 (by decide) ?_
  refine lv_icmp_eq (tgt := 38) hx hb dX13_weigh_7 (by decide) (fun c9 => ?_) (fun c9 => ?_)
  · have hc2 : v1.toInt = (-1) := (fi_eq rfl (show ((-1) : Int32).toInt = (-1) by decide)).mp c9
    refine lv_aload_n hx hb dX13_weigh_38 rfl (lv_at hl 0 rfl) ?_
    refine mz_getR hx hb htl hown hK hM 44 (Nat.le_of_ble_eq_true rfl) (Nat.le_of_ble_eq_true rfl) (htl _ mw_228) (fun _ h9 => h9) dX13_weigh_39 ?_
    refine lv_iload_n hx hb dX13_weigh_42 rfl (lv_at hl 1 rfl) ?_
    refine lv_iload_n hx hb dX13_weigh_43 rfl (lv_at hl 2 rfl) ?_
    refine mz_iast (x := p2) hx hb hK hD hM hS 44 (Nat.le_of_ble_eq_true rfl) rfl (nn := 5) rfl rfl (by omega) (by omega) dX13_weigh_44 (fun H locs R hM hS hw9 hj9 => ?_)
    have hIR := hIR.put hw9 hj9 trivial
    have hRR := mz_frp (K := [44, 45]) (Fa := Ra) hj9 (fun _ _ => rfl) (by decide)
    have e_v1 : R 45 (p1 : Int32).toNatClampNeg = _ := (congrFun (hj9 45 (by decide)) _).trans e_v1
    refine lv_aload_n hx hb dX13_weigh_45 rfl (lv_at hl 0 rfl) ?_
    refine mz_getR hx hb htl hown hK hM 45 (Nat.le_of_ble_eq_true rfl) (Nat.le_of_ble_eq_true rfl) (htl _ mw_229) (fun _ h9 => h9) dX13_weigh_46 ?_
    refine lv_iload_n hx hb dX13_weigh_49 rfl (lv_at hl 1 rfl) ?_
    refine lv_aload_n hx hb dX13_weigh_50 rfl (lv_at hl 0 rfl) ?_
    refine mz_getR hx hb htl hown hK hM 43 (Nat.le_of_ble_eq_true rfl) (Nat.le_of_ble_eq_true rfl) (htl _ mw_227) (fun _ h9 => h9) dX13_weigh_51 ?_
    refine lv_iload_n hx hb dX13_weigh_54 rfl (lv_at hl 1 rfl) ?_
    refine mz_iald hx hb hK hM 43 (Nat.le_of_ble_eq_true rfl) rfl (nn := 5) rfl rfl (by omega) (by omega) dX13_weigh_55 (fun v4 e_v4 => ?_)
    have hq_v4 := tk_rng v4
    refine mz_iast (x := v4) hx hb hK hD hM hS 45 (Nat.le_of_ble_eq_true rfl) rfl (nn := 5) rfl rfl (by omega) (by omega) dX13_weigh_56 (fun H locs R hM hS hw9 hj9 => ?_)
    have hIR := hIR.put hw9 hj9 trivial
    have hRR := mz_frp (K := [44, 45]) (Fa := Ra) hj9 hRR (by decide)
    have e_v4 : R 43 (p1 : Int32).toNatClampNeg = _ := (congrFun (hj9 43 (by decide)) _).trans e_v4
    exact mz_vret hx hb hr hlocks ⟨hIF, hIG, hIR, (fun _ _ => rfl), hRR, (fun _ _ => rfl)⟩ hM hS dX13_weigh_57
  · have hc2 : ¬ (v1.toInt = (-1)) := fun h9 => c9 ((fi_eq rfl (show ((-1) : Int32).toInt = (-1) by decide)).mpr h9)
    refine lv_iload_n hx hb dX13_weigh_10 rfl (lv_at hl 2 rfl) ?_
    refine lv_aload_n hx hb dX13_weigh_11 rfl (lv_at hl 0 rfl) ?_
    refine mz_getR hx hb htl hown hK hM 46 (Nat.le_of_ble_eq_true rfl) (Nat.le_of_ble_eq_true rfl) (htl _ mw_230) (fun _ h9 => h9) dX13_weigh_12 ?_
    refine lv_iload_n hx hb dX13_weigh_15 rfl (lv_at hl 1 rfl) ?_
    refine mz_iald hx hb hK hM 46 (Nat.le_of_ble_eq_true rfl) rfl (nn := 5) rfl rfl (by omega) (by omega) dX13_weigh_16 (fun v6 e_v6 => ?_)
    have hq_v6 := tk_rng v6
    refine mz_Sj (As := [.int p2, .int v6]) (rest := []) ⟨hx, hb, hml, hown, hts⟩ hK hM hS (k_X13_seenBy l D cy ld ad am hD _ _ _ _ p2 v6) ⟨callB_of 2 hts (wl_in mw_1322) rfl rfl rfl (htl _ mw_5) (htl _ mw_1320) hd_yX13_seenBy ⟨(Nat.le_of_ble_eq_true rfl), (Nat.le_of_ble_eq_true rfl)⟩, htl _ mw_1321⟩ rfl hl.1 rfl (Nat.le_of_ble_eq_true rfl) dX13_weigh_17 ⟨(Nat.le_of_ble_eq_true rfl), (Nat.le_of_ble_eq_true rfl)⟩ (fun v10 H locs hpo hM hS => ?_)
    have hq_v10 := tk_rng v10
    refine lv_aload_n hx hb dX13_weigh_20 rfl (lv_at hl 0 rfl) ?_
    refine mz_getR hx hb htl hown hK hM 44 (Nat.le_of_ble_eq_true rfl) (Nat.le_of_ble_eq_true rfl) (htl _ mw_228) (fun _ h9 => h9) dX13_weigh_21 ?_
    refine lv_iload_n hx hb dX13_weigh_24 rfl (lv_at hl 1 rfl) ?_
    refine mz_iald hx hb hK hM 44 (Nat.le_of_ble_eq_true rfl) rfl (nn := 5) rfl rfl (by omega) (by omega) dX13_weigh_25 (fun v12 e_v12 => ?_)
    have hq_v12 := tk_rng v12
    refine lv_aload_n hx hb dX13_weigh_26 rfl (lv_at hl 0 rfl) ?_
    refine mz_getR hx hb htl hown hK hM 46 (Nat.le_of_ble_eq_true rfl) (Nat.le_of_ble_eq_true rfl) (htl _ mw_230) (fun _ h9 => h9) dX13_weigh_27 ?_
    refine lv_iload_n hx hb dX13_weigh_30 rfl (lv_at hl 1 rfl) ?_
    refine mz_iald hx hb hK hM 46 (Nat.le_of_ble_eq_true rfl) rfl (nn := 5) rfl rfl (by omega) (by omega) dX13_weigh_31 (fun v9 e9 => ?_)
    refine fx_ti (v := v6) (e9.symm.trans e_v6) ?_
    refine mz_Sj (As := [.int v12, .int v6]) (rest := [.int v10]) ⟨hx, hb, hml, hown, hts⟩ hK hM hS (k_X13_seenBy l D cy ld ad am hD _ _ _ _ v12 v6) ⟨callB_of 2 hts (wl_in mw_1322) rfl rfl rfl (htl _ mw_5) (htl _ mw_1320) hd_yX13_seenBy ⟨(Nat.le_of_ble_eq_true rfl), (Nat.le_of_ble_eq_true rfl)⟩, htl _ mw_1321⟩ rfl hl.1 rfl (Nat.le_of_ble_eq_true rfl) dX13_weigh_32 ⟨(Nat.le_of_ble_eq_true rfl), (Nat.le_of_ble_eq_true rfl)⟩ (fun v13 H locs hpo hM hS => ?_)
    have hq_v13 := tk_rng v13
    refine lv_icmp_le (tgt := 57) hx hb dX13_weigh_35 (by decide) (fun c9 => ?_) (fun c9 => ?_)
    · have hc15 : v10.toInt ≤ v13.toInt := (fi_le rfl rfl).mp c9
      exact mz_vret hx hb hr hlocks ⟨hIF, hIG, hIR, (fun _ _ => rfl), (fun _ _ => rfl), (fun _ _ => rfl)⟩ hM hS dX13_weigh_57
    · have hc15 : ¬ (v10.toInt ≤ v13.toInt) := fun h9 => c9 ((fi_le rfl rfl).mpr h9)
      refine lv_aload_n hx hb dX13_weigh_38 rfl (lv_at hl 0 rfl) ?_
      refine mz_getR hx hb htl hown hK hM 44 (Nat.le_of_ble_eq_true rfl) (Nat.le_of_ble_eq_true rfl) (htl _ mw_228) (fun _ h9 => h9) dX13_weigh_39 ?_
      refine lv_iload_n hx hb dX13_weigh_42 rfl (lv_at hl 1 rfl) ?_
      refine lv_iload_n hx hb dX13_weigh_43 rfl (lv_at hl 2 rfl) ?_
      refine mz_iast (x := p2) hx hb hK hD hM hS 44 (Nat.le_of_ble_eq_true rfl) rfl (nn := 5) rfl rfl (by omega) (by omega) dX13_weigh_44 (fun H locs R hM hS hw9 hj9 => ?_)
      have hIR := hIR.put hw9 hj9 trivial
      have hRR := mz_frp (K := [44, 45]) (Fa := Ra) hj9 (fun _ _ => rfl) (by decide)
      have e_v1 : R 45 (p1 : Int32).toNatClampNeg = _ := (congrFun (hj9 45 (by decide)) _).trans e_v1
      have e_v6 : R 46 (p1 : Int32).toNatClampNeg = _ := (congrFun (hj9 46 (by decide)) _).trans e_v6
      refine lv_aload_n hx hb dX13_weigh_45 rfl (lv_at hl 0 rfl) ?_
      refine mz_getR hx hb htl hown hK hM 45 (Nat.le_of_ble_eq_true rfl) (Nat.le_of_ble_eq_true rfl) (htl _ mw_229) (fun _ h9 => h9) dX13_weigh_46 ?_
      refine lv_iload_n hx hb dX13_weigh_49 rfl (lv_at hl 1 rfl) ?_
      refine lv_aload_n hx hb dX13_weigh_50 rfl (lv_at hl 0 rfl) ?_
      refine mz_getR hx hb htl hown hK hM 43 (Nat.le_of_ble_eq_true rfl) (Nat.le_of_ble_eq_true rfl) (htl _ mw_227) (fun _ h9 => h9) dX13_weigh_51 ?_
      refine lv_iload_n hx hb dX13_weigh_54 rfl (lv_at hl 1 rfl) ?_
      refine mz_iald hx hb hK hM 43 (Nat.le_of_ble_eq_true rfl) rfl (nn := 5) rfl rfl (by omega) (by omega) dX13_weigh_55 (fun v17 e_v17 => ?_)
      have hq_v17 := tk_rng v17
      refine mz_iast (x := v17) hx hb hK hD hM hS 45 (Nat.le_of_ble_eq_true rfl) rfl (nn := 5) rfl rfl (by omega) (by omega) dX13_weigh_56 (fun H locs R hM hS hw9 hj9 => ?_)
      have hIR := hIR.put hw9 hj9 trivial
      have hRR := mz_frp (K := [44, 45]) (Fa := Ra) hj9 hRR (by decide)
      have e_v6 : R 46 (p1 : Int32).toNatClampNeg = _ := (congrFun (hj9 46 (by decide)) _).trans e_v6
      have e_v17 : R 43 (p1 : Int32).toNatClampNeg = _ := (congrFun (hj9 43 (by decide)) _).trans e_v17
      exact mz_vret hx hb hr hlocks ⟨hIF, hIG, hIR, (fun _ _ => rfl), hRR, (fun _ _ => rfl)⟩ hM hS dX13_weigh_57
