set_option maxHeartbeats 4000000 in
set_option maxRecDepth 100000 in
theorem k_X13_openBracket_31 (l : Launch) (D : va_G) (cy : Nat → ClassId) (ld ad : Nat → Nat) (am : Nat) (hD : mz_D ad am) (Fa : Nat → Int32) (Ga : Nat → Int64) (Ra : Nat → Nat → Int32) (Sa : Nat → Nat → Int64) (gf : Int32) (gt : Int32) (gs : Int32) (gp : Int32) (gw : Int64) (gb : Int32) (gc : Int32) (gd : Int32) (zs : Nat) (hIF : mz_IF false Fa) (hIG : mz_IG Ga) (hIR : mz_IR [] true Ra) (hg_0 : Fa 14 = gf) (hg_1 : Fa 15 = gt) (hg_2 : Fa 16 = gs) (hg_3 : Fa 13 = gp) (hg_4 : Ga 17 = gw) (hg_5 : Fa 19 = gb) (hg_6 : Fa 23 = gc) (hg_7 : Fa 29 = gd) (hp_0 : 0 ≤ (-1) * gf.toInt + gt.toInt) (hp_1 : 0 ≤ gp.toInt + (-1) * gt.toInt) (hp_2 : (1 ≤ gs.toInt → 0 ≤ (-1) * gf.toInt + gt.toInt + (-1))) (hp_3 : (27 ≤ gw.toInt → 1 ≤ gs.toInt → gs.toInt ≤ 1 → 0 ≤ (-1) * gf.toInt + gt.toInt + (-2))) (hp_4 : 0 ≤ (-1) * gc.toInt + (-1) * gd.toInt + gf.toInt) (hp_5 : gb.toInt ≤ 0) (hp_6 : 1 ≤ gs.toInt) (hx_0 : PT (Ra 24) (Ra 25) (Ra 27) (Ra 28) zs gc.toInt.toNat gd.toInt.toNat 0) : Met l yX13_openBracket (wl yX13_openBracket cX13_openBracket 2 none) ({ frames := 6, cells := 0, slots := 0, locals := 350 }) (mz_p D cy ld ad am Fa Ga Ra Sa [.ref am, .int 31]) (mz_w D cy ad am (fun F G R S => mz_IF false F ∧ mz_IG G ∧ mz_IR [] true R ∧ (∀ k : Nat, k ∉ ([14, 15, 16, 18, 19, 29, 30] : List Nat) → F k = Fa k) ∧ (∀ k : Nat, k ∉ ([27, 28] : List Nat) → R k = Ra k) ∧ (∀ k : Nat, k ∉ ([17] : List Nat) → G k = Ga k) ∧ 0 ≤ (-1) * (F 14).toInt + (F 15).toInt ∧ 0 ≤ gp.toInt + (-1) * (F 15).toInt ∧ (1 ≤ (F 16).toInt → 0 ≤ (-1) * (F 14).toInt + (F 15).toInt + (-1)) ∧ (27 ≤ (G 17).toInt → 1 ≤ (F 16).toInt → (F 16).toInt ≤ 1 → 0 ≤ (-1) * (F 14).toInt + (F 15).toInt + (-2)) ∧ 0 ≤ (-1) * gf.toInt + (F 14).toInt ∧ 0 ≤ (-1) * (F 23).toInt + (-1) * (F 29).toInt + (F 14).toInt ∧ 0 ≤ (-1) * gc.toInt + (F 23).toInt ∧ ((F 19).toInt ≤ 0 → 0 ≤ (-1) * gf.toInt + (F 14).toInt + (-1)) ∧ ((F 19).toInt = 0 → PT (R 24) (R 25) (R 27) (R 28) zs (F 23).toInt.toNat (F 29).toInt.toNat 0 ∧ low zs (Ra 24) (R 24) ∧ low zs (Ra 25) (R 25)))) 0 0 (mz_W ad am) := by
  refine mz_met (y := yX13_openBracket) (cc := cX13_openBracket) (maxL := 2) (ret := none) (av := [.ref am, .int 31]) _ (by decide) (Nat.le_of_ble_eq_true rfl) ?_
  intro p e s m args below meth c hx hb hr hml hts htl hown hlocks hK H locs hM hS ls hl
  have hown : s.vm.findClass RX13 = some m.cls := hown
  have hl : lv_has ls 2 [(0, .ref am), (1, .int 31)] := hl
  have hq_gf := tk_rng gf
  have hq_gt := tk_rng gt
  have hq_gs := tk_rng gs
  have hq_gp := tk_rng gp
  have hq_gw := tk_rngL gw
  have hq_gb := tk_rng gb
  have hq_gc := tk_rng gc
  have hq_gd := tk_rng gd
  have hr_gf : 0 ≤ gf.toInt ∧ gf.toInt ≤ 400 := hIF.at hg_0
  have hr_gt : 0 ≤ gt.toInt ∧ gt.toInt ≤ 400 := hIF.at hg_1
  have hr_gs : 0 ≤ gs.toInt ∧ gs.toInt ≤ 3 := hIF.at hg_2
  have hr_gp : 0 ≤ gp.toInt ∧ gp.toInt ≤ 400 := hIF.at hg_3
  have hr_gb : 0 ≤ gb.toInt ∧ gb.toInt ≤ 1 := hIF.at hg_5
  have hr_gc : 0 ≤ gc.toInt ∧ gc.toInt ≤ 400 := hIF.at hg_6
  have hr_gd : 0 ≤ gd.toInt ∧ gd.toInt ≤ 400 := hIF.at hg_7
  have hPI : PI (Ra 24) (Ra 25) (Ra 27) (Ra 28) zs gc.toInt.toNat gd.toInt.toNat 0 := hx_0.p (by decide)
  have hLo := And.intro (low.refl zs (Ra 24)) (low.refl zs (Ra 25))
  have hSq : nSq (Ra 27) gd.toInt.toNat := hx_0.2.1 (by decide)
  refine lv_aload_n hx hb dX13_openBracket_0 rfl (lv_at hl 0 rfl) ?_
  refine lv_aload_n hx hb dX13_openBracket_1 rfl (lv_at hl 0 rfl) ?_
  refine mz_getI hx hb htl hown hK hM 30 (Nat.le_of_ble_eq_true rfl) rfl (htl _ mw_719) (fun _ h9 => h9) dX13_openBracket_2 (fun v2 hf1 => ?_)
  have hq_v2 := tk_rng v2
  refine lv_bipush (v := 8) hx hb dX13_openBracket_5 (by decide) ?_
  refine lv_icmp_ge (tgt := 14) hx hb dX13_openBracket_7 (by decide) (fun c9 => ?_) (fun c9 => ?_)
  · have hc3 : 8 ≤ v2.toInt := (fi_le (show (8 : Int32).toInt = 8 by decide) rfl).mp c9
    refine lv_iconst (v := 0) hx hb dX13_openBracket_14 (by decide) ?_
    have hk_0 : (0 : Int32).toInt = 0 := by decide
    refine mz_Vv (As := [.int 0]) (rest := []) ⟨hx, hb, hml, hown, hts⟩ hK hM hS (k_X13_must l D cy ld ad am hD _ _ _ _ 0 gf gt gs gp gw gb hIF hIG hIR hg_0 hg_1 hg_2 hg_3 hg_4 hg_5 (by omega) (by omega) (by omega) (by omega) (by omega) (by omega)) ⟨callB_of 1 hts (wl_in mw_713) rfl rfl rfl (htl _ mw_5) (htl _ mw_710) hd_yX13_must ⟨(Nat.le_of_ble_eq_true rfl), (Nat.le_of_ble_eq_true rfl)⟩, htl _ mw_711, htl _ mw_712⟩ rfl hl.1 rfl (Nat.le_of_ble_eq_true rfl) dX13_openBracket_15 ⟨(Nat.le_of_ble_eq_true rfl), (Nat.le_of_ble_eq_true rfl)⟩ (fun H locs F G R S hpo hM hS => ?_)
    obtain ⟨hIF, hIG, hIR, hfr9, hrr9, hgr9, hpo4, hpo5, hpo6, hpo7, hpo8, hpo9, hpo10, hpo11⟩ := hpo
    have hFF := mz_fr (K := [14, 15, 16, 18, 19, 29, 30]) (Fa := Fa) hfr9 (fun _ _ => rfl) (by decide)
    have hRR := mz_fr (K := [27, 28]) (Fa := Ra) hrr9 (fun _ _ => rfl) (by decide)
    have hGG := mz_fr (K := [17]) (Fa := Ga) hgr9 (fun _ _ => rfl) (by decide)
    have hg_3 := (hfr9 13 (by decide)).trans hg_3
    have hg_6 := (hfr9 23 (by decide)).trans hg_6
    have hg_7 := (hfr9 29 (by decide)).trans hg_7
    have hf1 := (hfr9 30 (by decide)).trans hf1
    obtain ⟨v14, hf13⟩ : ∃ z : Int32, F 14 = z := ⟨_, rfl⟩
    have hq_v14 := tk_rng v14
    rw [hf13] at hpo4 hpo6 hpo7 hpo8 hpo10
    have hr_v14 : 0 ≤ v14.toInt ∧ v14.toInt ≤ 400 := hIF.at hf13
    obtain ⟨v16, hf15⟩ : ∃ z : Int32, F 15 = z := ⟨_, rfl⟩
    have hq_v16 := tk_rng v16
    rw [hf15] at hpo4 hpo5 hpo6 hpo7
    have hr_v16 : 0 ≤ v16.toInt ∧ v16.toInt ≤ 400 := hIF.at hf15
    obtain ⟨v18, hf17⟩ : ∃ z : Int32, F 16 = z := ⟨_, rfl⟩
    have hq_v18 := tk_rng v18
    rw [hf17] at hpo6 hpo7
    have hr_v18 : 0 ≤ v18.toInt ∧ v18.toInt ≤ 3 := hIF.at hf17
    obtain ⟨w20, hf19⟩ : ∃ z : Int64, G 17 = z := ⟨_, rfl⟩
    have hq_w20 := tk_rngL w20
    rw [hf19] at hpo7
    obtain ⟨v22, hf21⟩ : ∃ z : Int32, F 19 = z := ⟨_, rfl⟩
    have hq_v22 := tk_rng v22
    rw [hf21] at hpo9 hpo10 hpo11
    have hr_v22 : 0 ≤ v22.toInt ∧ v22.toInt ≤ 1 := hIF.at hf21
    have hPI := hPI.to (hrr9 24 (by decide)) (hrr9 25 (by decide)) (hrr9 27 (by decide)) (hrr9 28 (by decide)) rfl rfl
    have hLo := And.intro (hLo.1.to (hrr9 24 (by decide))) (hLo.2.to (hrr9 25 (by decide)))
    have hSq := hSq.to (hrr9 27 (by decide)) (Nat.le_refl _)
    refine lv_aload_n hx hb dX13_openBracket_18 rfl (lv_at hl 0 rfl) ?_
    refine mz_getI hx hb htl hown hK hM 19 (Nat.le_of_ble_eq_true rfl) rfl (htl _ mw_668) (fun _ h9 => h9) dX13_openBracket_19 (fun v9 e9 => ?_)
    refine fx_ti (v := v22) (e9.symm.trans hf21) ?_
    refine lv_if_ne (tgt := 41) hx hb dX13_openBracket_22 (by decide) (fun c9 => ?_) (fun c9 => ?_)
    · have hc23 : ¬ (v22.toInt = 0) := fun h9 => c9 ((fi_eq rfl (show (0 : Int32).toInt = 0 by decide)).mpr h9)
      exact mz_vret hx hb hr hlocks ⟨hIF, hIG, hIR, hFF, hRR, hGG, (by rw [hf13, hf15]; omega), (by rw [hf15]; omega), (by rw [hf13, hf15, hf17]; omega), (by rw [hf13, hf15, hf17, hf19]; omega), (by rw [hf13]; omega), (by rw [hf13, hg_6, hg_7]; omega), (by rw [hg_6]; omega), (by rw [hf13, hf21]; omega), (by rw [hf21]; exact fun h9 => absurd h9 (by omega))⟩ hM hS dX13_openBracket_41
    · have hc23 : v22.toInt = 0 := (fi_eq rfl (show (0 : Int32).toInt = 0 by decide)).mp c9
      exfalso
      omega
  · have hc3 : ¬ (8 ≤ v2.toInt) := fun h9 => c9 ((fi_le (show (8 : Int32).toInt = 8 by decide) rfl).mpr h9)
    refine lv_iconst (v := 1) hx hb dX13_openBracket_10 (by decide) ?_
    refine lv_goto (tgt := 15) hx hb dX13_openBracket_11 (by decide) ?_
    have hk_1 : (1 : Int32).toInt = 1 := by decide
    refine mz_Vv (As := [.int 1]) (rest := []) ⟨hx, hb, hml, hown, hts⟩ hK hM hS (k_X13_must l D cy ld ad am hD _ _ _ _ 1 gf gt gs gp gw gb hIF hIG hIR hg_0 hg_1 hg_2 hg_3 hg_4 hg_5 (by omega) (by omega) (by omega) (by omega) (by omega) (by omega)) ⟨callB_of 1 hts (wl_in mw_713) rfl rfl rfl (htl _ mw_5) (htl _ mw_710) hd_yX13_must ⟨(Nat.le_of_ble_eq_true rfl), (Nat.le_of_ble_eq_true rfl)⟩, htl _ mw_711, htl _ mw_712⟩ rfl hl.1 rfl (Nat.le_of_ble_eq_true rfl) dX13_openBracket_15 ⟨(Nat.le_of_ble_eq_true rfl), (Nat.le_of_ble_eq_true rfl)⟩ (fun H locs F G R S hpo hM hS => ?_)
    obtain ⟨hIF, hIG, hIR, hfr9, hrr9, hgr9, hpo24, hpo25, hpo26, hpo27, hpo28, hpo29, hpo30, hpo31⟩ := hpo
    have hFF := mz_fr (K := [14, 15, 16, 18, 19, 29, 30]) (Fa := Fa) hfr9 (fun _ _ => rfl) (by decide)
    have hRR := mz_fr (K := [27, 28]) (Fa := Ra) hrr9 (fun _ _ => rfl) (by decide)
    have hGG := mz_fr (K := [17]) (Fa := Ga) hgr9 (fun _ _ => rfl) (by decide)
    have hg_3 := (hfr9 13 (by decide)).trans hg_3
    have hg_6 := (hfr9 23 (by decide)).trans hg_6
    have hg_7 := (hfr9 29 (by decide)).trans hg_7
    have hf1 := (hfr9 30 (by decide)).trans hf1
    obtain ⟨v34, hf33⟩ : ∃ z : Int32, F 14 = z := ⟨_, rfl⟩
    have hq_v34 := tk_rng v34
    rw [hf33] at hpo24 hpo26 hpo27 hpo28 hpo30
    have hr_v34 : 0 ≤ v34.toInt ∧ v34.toInt ≤ 400 := hIF.at hf33
    obtain ⟨v36, hf35⟩ : ∃ z : Int32, F 15 = z := ⟨_, rfl⟩
    have hq_v36 := tk_rng v36
    rw [hf35] at hpo24 hpo25 hpo26 hpo27
    have hr_v36 : 0 ≤ v36.toInt ∧ v36.toInt ≤ 400 := hIF.at hf35
    obtain ⟨v38, hf37⟩ : ∃ z : Int32, F 16 = z := ⟨_, rfl⟩
    have hq_v38 := tk_rng v38
    rw [hf37] at hpo26 hpo27
    have hr_v38 : 0 ≤ v38.toInt ∧ v38.toInt ≤ 3 := hIF.at hf37
    obtain ⟨w40, hf39⟩ : ∃ z : Int64, G 17 = z := ⟨_, rfl⟩
    have hq_w40 := tk_rngL w40
    rw [hf39] at hpo27
    obtain ⟨v42, hf41⟩ : ∃ z : Int32, F 19 = z := ⟨_, rfl⟩
    have hq_v42 := tk_rng v42
    rw [hf41] at hpo29 hpo30 hpo31
    have hr_v42 : 0 ≤ v42.toInt ∧ v42.toInt ≤ 1 := hIF.at hf41
    have hPI := hPI.to (hrr9 24 (by decide)) (hrr9 25 (by decide)) (hrr9 27 (by decide)) (hrr9 28 (by decide)) rfl rfl
    have hLo := And.intro (hLo.1.to (hrr9 24 (by decide))) (hLo.2.to (hrr9 25 (by decide)))
    have hSq := hSq.to (hrr9 27 (by decide)) (Nat.le_refl _)
    refine lv_aload_n hx hb dX13_openBracket_18 rfl (lv_at hl 0 rfl) ?_
    refine mz_getI hx hb htl hown hK hM 19 (Nat.le_of_ble_eq_true rfl) rfl (htl _ mw_668) (fun _ h9 => h9) dX13_openBracket_19 (fun v9 e9 => ?_)
    refine fx_ti (v := v42) (e9.symm.trans hf41) ?_
    refine lv_if_ne (tgt := 41) hx hb dX13_openBracket_22 (by decide) (fun c9 => absurd ((fi_eq rfl (show (0 : Int32).toInt = 0 by decide)).mpr (show v42.toInt = 0 by omega)) c9) (fun _ => ?_)
    refine lv_aload_n hx hb dX13_openBracket_25 rfl (lv_at hl 0 rfl) ?_
    refine lv_dup hx hb dX13_openBracket_26 rfl ?_
    refine mz_getI hx hb htl hown hK hM 30 (Nat.le_of_ble_eq_true rfl) rfl (htl _ mw_719) (fun _ h9 => h9) dX13_openBracket_27 (fun v9 e9 => ?_)
    refine fx_ti (v := v2) (e9.symm.trans hf1) ?_
    refine lv_iconst (v := 1) hx hb dX13_openBracket_30 (by decide) ?_
    refine lv_iadd hx hb dX13_openBracket_31 ?_
    refine tk_add rfl (show (1 : Int32).toInt = 1 by decide) (by omega) (by omega) (fun v43 h_v43 => ?_)
    refine mz_putI (ty := .int) (x := v43) hx hb htl hown hK hD hM hS 30 (Nat.le_of_ble_eq_true rfl) rfl (htl _ mw_719) (fun _ h9 => h9) rfl (tyX13_ok 30 (by decide)) rfl rfl dX13_openBracket_32 (fun H locs F hM hS hf9 hj9 => ?_)
    have hIF := hIF.put hf9 hj9 (tk_rng _).1 (tk_rng _).2 (by decide)
    have hFF := mz_frp (K := [14, 15, 16, 18, 19, 29, 30]) (Fa := Fa) hj9 hFF (by decide)
    have hg_3 := (hj9 13 (by decide)).trans hg_3
    have hg_6 := (hj9 23 (by decide)).trans hg_6
    have hg_7 := (hj9 29 (by decide)).trans hg_7
    have hf33 := (hj9 14 (by decide)).trans hf33
    have hf35 := (hj9 15 (by decide)).trans hf35
    have hf37 := (hj9 16 (by decide)).trans hf37
    have hf41 := (hj9 19 (by decide)).trans hf41
    have hf45 := hf9
    refine lv_aload_n hx hb dX13_openBracket_35 rfl (lv_at hl 0 rfl) ?_
    refine lv_iload_n hx hb dX13_openBracket_36 rfl (lv_at hl 1 rfl) ?_
    refine lv_iconst (v := 0) hx hb dX13_openBracket_37 (by decide) ?_
    have hk_31 : (31 : Int32).toInt = 31 := by decide
    have hk_0 : (0 : Int32).toInt = 0 := by decide
    refine mz_Vv (As := [.int 31, .int 0]) (rest := []) ⟨hx, hb, hml, hown, hts⟩ hK hM hS (k_X13_push l D cy ld ad am hD _ _ _ _ 31 0 gd hIF hIG hIR hg_7 (by omega) (by omega) (by omega)) ⟨callB_of 2 hts (wl_in mw_728) rfl rfl rfl (htl _ mw_5) (htl _ mw_725) hd_yX13_push ⟨(Nat.le_of_ble_eq_true rfl), (Nat.le_of_ble_eq_true rfl)⟩, htl _ mw_726, htl _ mw_727⟩ rfl hl.1 rfl (Nat.le_of_ble_eq_true rfl) dX13_openBracket_38 ⟨(Nat.le_of_ble_eq_true rfl), (Nat.le_of_ble_eq_true rfl)⟩ (fun H locs F G R S hpo hM hS => ?_)
    obtain ⟨hIF, hIG, hIR, hfr9, hrr9, hgr9, hpo46, hx47, hx48⟩ := hpo
    have hFF := mz_fr (K := [14, 15, 16, 18, 19, 29, 30]) (Fa := Fa) hfr9 hFF (by decide)
    have hRR := mz_fr (K := [27, 28]) (Fa := Ra) hrr9 hRR (by decide)
    have hGG := mz_fr (K := [17]) (Fa := Ga) hgr9 hGG (by decide)
    have hg_3 := (hfr9 13 (by decide)).trans hg_3
    have hg_6 := (hfr9 23 (by decide)).trans hg_6
    have hf33 := (hfr9 14 (by decide)).trans hf33
    have hf35 := (hfr9 15 (by decide)).trans hf35
    have hf37 := (hfr9 16 (by decide)).trans hf37
    have hf39 := (hgr9 17 (by decide)).trans hf39
    have hf41 := (hfr9 19 (by decide)).trans hf41
    have hf45 := (hfr9 30 (by decide)).trans hf45
    obtain ⟨v51, hf50⟩ : ∃ z : Int32, F 29 = z := ⟨_, rfl⟩
    have hq_v51 := tk_rng v51
    rw [hf50] at hpo46
    have hr_v51 : 0 ≤ v51.toInt ∧ v51.toInt ≤ 400 := hIF.at hf50
    have hPI : PI (R 24) (R 25) (R 27) (R 28) zs gc.toInt.toNat v51.toInt.toNat 0 := (PI.push (o := 31) hPI (by decide) (by decide) (by decide) (by decide) (Or.inr (Or.inr hSq)) hx47 hx48).to (hrr9 24 (by decide)) (hrr9 25 (by decide)) rfl rfl rfl (by omega)
    have hLo := And.intro (hLo.1.to (hrr9 24 (by decide))) (hLo.2.to (hrr9 25 (by decide)))
    have hSq : nSq (R 27) v51.toInt.toNat := (hSq.push hx47 (by decide)).to rfl (by omega)
    exact mz_vret hx hb hr hlocks ⟨hIF, hIG, hIR, hFF, hRR, hGG, (by rw [hf33, hf35]; omega), (by rw [hf35]; omega), (by rw [hf33, hf35, hf37]; omega), (by rw [hf33, hf35, hf37, hf39]; omega), (by rw [hf33]; omega), (by rw [hf33, hg_6, hf50]; omega), (by rw [hg_6]; omega), (by rw [hf33, hf41]; omega), (fun _ => ⟨PT.mk hPI (by decide) (fun _ => hSq) (fun h9 => absurd h9 (by decide)) rfl rfl rfl rfl (by rw [hg_6]) (by rw [hf50]), hLo⟩)⟩ hM hS dX13_openBracket_41
