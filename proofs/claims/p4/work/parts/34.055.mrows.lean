section
set_option maxHeartbeats 4000000 in
set_option maxRecDepth 100000 in
theorem k_X13_openBracket_31 (l : Launch) (D : va_G) (cy : Nat → ClassId) (ld ad : Nat → Nat) (am : Nat) (hD : mz_D ad am) (Fa : Nat → Int32) (Ga : Nat → Int64) (Ra : Nat → Nat → Int32) (Sa : Nat → Nat → Int64) (gf : Int32) (gt : Int32) (gs : Int32) (gp : Int32) (gw : Int64) (gb : Int32) (gc : Int32) (gd : Int32) (zs : Nat) (hIF : mz_IF false Fa) (hIG : mz_IG Ga) (hIR : mz_IR [] true Ra) (hg_0 : Fa 14 = gf) (hg_1 : Fa 15 = gt) (hg_2 : Fa 16 = gs) (hg_3 : Fa 13 = gp) (hg_4 : Ga 17 = gw) (hg_5 : Fa 19 = gb) (hg_6 : Fa 23 = gc) (hg_7 : Fa 29 = gd) (hp_0 : 0 ≤ (-1) * gf.toInt + gt.toInt) (hp_1 : 0 ≤ gp.toInt + (-1) * gt.toInt) (hp_2 : (1 ≤ gs.toInt → 0 ≤ (-1) * gf.toInt + gt.toInt + (-1))) (hp_3 : (27 ≤ gw.toInt → 1 ≤ gs.toInt → gs.toInt ≤ 1 → 0 ≤ (-1) * gf.toInt + gt.toInt + (-2))) (hp_4 : 0 ≤ (-1) * gc.toInt + (-1) * gd.toInt + gf.toInt) (hp_5 : gb.toInt ≤ 0) (hp_6 : 1 ≤ gs.toInt) (hx_0 : PT (Ra 24) (Ra 25) (Ra 27) (Ra 28) zs gc.toInt.toNat gd.toInt.toNat 0) : Met l yX13_openBracket (wl yX13_openBracket cX13_openBracket 2 none) ({ frames := 6, cells := 0, slots := 0, locals := 350 }) (mz_p D cy ld ad am Fa Ga Ra Sa [.ref am, .int 31]) (mz_w D cy ad am (fun F G R S => mz_IF false F ∧ mz_IG G ∧ mz_IR [] true R ∧ (∀ k : Nat, k ∉ ([14, 15, 16, 18, 19, 29, 30] : List Nat) → F k = Fa k) ∧ (∀ k : Nat, k ∉ ([27, 28] : List Nat) → R k = Ra k) ∧ (∀ k : Nat, k ∉ ([17] : List Nat) → G k = Ga k) ∧ 0 ≤ (-1) * (F 14).toInt + (F 15).toInt ∧ 0 ≤ gp.toInt + (-1) * (F 15).toInt ∧ (1 ≤ (F 16).toInt → 0 ≤ (-1) * (F 14).toInt + (F 15).toInt + (-1)) ∧ (27 ≤ (G 17).toInt → 1 ≤ (F 16).toInt → (F 16).toInt ≤ 1 → 0 ≤ (-1) * (F 14).toInt + (F 15).toInt + (-2)) ∧ 0 ≤ (-1) * gf.toInt + (F 14).toInt ∧ 0 ≤ (-1) * (F 23).toInt + (-1) * (F 29).toInt + (F 14).toInt ∧ 0 ≤ (-1) * gc.toInt + (F 23).toInt ∧ ((F 19).toInt ≤ 0 → 0 ≤ (-1) * gf.toInt + (F 14).toInt + (-1)) ∧ ((F 19).toInt = 0 → PT (R 24) (R 25) (R 27) (R 28) zs (F 23).toInt.toNat (F 29).toInt.toNat 0 ∧ low zs (Ra 24) (R 24) ∧ low zs (Ra 25) (R 25)))) 0 0 (mz_W ad am) := by
  refine mz_met (y := yX13_openBracket) (cc := cX13_openBracket) (maxL := 2) (ret := none) (av := [.ref am, .int 31]) _ (by decide) (Nat.le_of_ble_eq_true rfl) ?_
  intro p e s m args below meth c hx hb hr hml hts htl hown hlocks hK H locs hM hS ls hl
  have hown : s.vm.findClass RX13 = some m.cls := hown
  have hl : lv_has ls 2 [(0, .ref am), (1, .int 31)] := hl
  have hq_gf := tk_rng gf
  have hq_gt := tk_rng gt
  have hq_gs := tk_rng gs
  have hq_gp := tk_rng gp
  have hq_gw := tk_rngL gw
  have hq_gb := tk_rng gb
  have hq_gc := tk_rng gc
  have hq_gd := tk_rng gd
  have hr_gf : 0 ≤ gf.toInt ∧ gf.toInt ≤ 400 := hIF.at hg_0
  have hr_gt : 0 ≤ gt.toInt ∧ gt.toInt ≤ 400 := hIF.at hg_1
  have hr_gs : 0 ≤ gs.toInt ∧ gs.toInt ≤ 3 := hIF.at hg_2
  have hr_gp : 0 ≤ gp.toInt ∧ gp.toInt ≤ 400 := hIF.at hg_3
  have hr_gb : 0 ≤ gb.toInt ∧ gb.toInt ≤ 1 := hIF.at hg_5
  have hr_gc : 0 ≤ gc.toInt ∧ gc.toInt ≤ 400 := hIF.at hg_6
  have hr_gd : 0 ≤ gd.toInt ∧ gd.toInt ≤ 400 := hIF.at hg_7
  have hwk_1 : 0 ≤ (-1) * gf.toInt + gt.toInt + (-1) := by omega
  have hPI : PI (Ra 24) (Ra 25) (Ra 27) (Ra 28) zs gc.toInt.toNat gd.toInt.toNat 0 := hx_0.p (by decide)
  have hLo := And.intro (low.refl zs (Ra 24)) (low.refl zs (Ra 25))
  have hSq : nSq (Ra 27) gd.toInt.toNat := hx_0.2.1 (by decide)
  refine lv_aload_n hx hb dX13_openBracket_0 rfl (lv_at hl 0 rfl) ?_
  refine lv_aload_n hx hb dX13_openBracket_1 rfl (lv_at hl 0 rfl) ?_
  refine mz_getI hx hb htl hown hK hM 30 (Nat.le_of_ble_eq_true rfl) rfl (htl _ mw_719) (fun _ h9 => h9) dX13_openBracket_2 (fun v3 hf2 => ?_)
  have hq_v3 := tk_rng v3
  refine lv_bipush (v := 8) hx hb dX13_openBracket_5 (by decide) ?_
  refine lv_icmp_ge (tgt := 14) hx hb dX13_openBracket_7 (by decide) (fun c9 => ?_) (fun c9 => ?_)
  · have hc4 : 8 ≤ v3.toInt := (fi_le (show (8 : Int32).toInt = 8 by decide) rfl).mp c9
    refine lv_iconst (v := 0) hx hb dX13_openBracket_14 (by decide) ?_
    have hk_0 : (0 : Int32).toInt = 0 := by decide
    refine mz_Vv (As := [.int 0]) (rest := []) ⟨hx, hb, hml, hown, hts⟩ hK hM hS (k_X13_must l D cy ld ad am hD _ _ _ _ 0 gf gt gs gp gw gb hIF hIG hIR hg_0 hg_1 hg_2 hg_3 hg_4 hg_5 (by omega) (by omega) (by omega) (by omega) (by omega) (by omega)) ⟨callB_of 1 hts (wl_in mw_713) rfl rfl rfl (htl _ mw_5) (htl _ mw_710) hd_yX13_must ⟨(Nat.le_of_ble_eq_true rfl), (Nat.le_of_ble_eq_true rfl)⟩, htl _ mw_711, htl _ mw_712⟩ rfl hl.1 rfl (Nat.le_of_ble_eq_true rfl) dX13_openBracket_15 ⟨(Nat.le_of_ble_eq_true rfl), (Nat.le_of_ble_eq_true rfl)⟩ (fun H locs F G R S hpo hM hS => ?_)
    obtain ⟨hIF, hIG, hIR, hfr9, hrr9, hgr9, hpo5, hpo6, hpo10, hpo11, hpo12, hpo13, hpo14, hpo15⟩ := hpo
    have hFF := mz_fr (K := [14, 15, 16, 18, 19, 29, 30]) (Fa := Fa) hfr9 (fun _ _ => rfl) (by decide)
    have hRR := mz_fr (K := [27, 28]) (Fa := Ra) hrr9 (fun _ _ => rfl) (by decide)
    have hGG := mz_fr (K := [17]) (Fa := Ga) hgr9 (fun _ _ => rfl) (by decide)
    have hg_3 := (hfr9 13 (by decide)).trans hg_3
    have hg_6 := (hfr9 23 (by decide)).trans hg_6
    have hg_7 := (hfr9 29 (by decide)).trans hg_7
    have hf2 := (hfr9 30 (by decide)).trans hf2
    obtain ⟨v18, hf17⟩ : ∃ z : Int32, F 14 = z := ⟨_, rfl⟩
    have hq_v18 := tk_rng v18
    rw [hf17] at hpo5 hpo10 hpo11 hpo12 hpo14
    have hr_v18 : 0 ≤ v18.toInt ∧ v18.toInt ≤ 400 := hIF.at hf17
    obtain ⟨v20, hf19⟩ : ∃ z : Int32, F 15 = z := ⟨_, rfl⟩
    have hq_v20 := tk_rng v20
    rw [hf19] at hpo5 hpo6 hpo10 hpo11
    have hr_v20 : 0 ≤ v20.toInt ∧ v20.toInt ≤ 400 := hIF.at hf19
    obtain ⟨v22, hf21⟩ : ∃ z : Int32, F 16 = z := ⟨_, rfl⟩
    have hq_v22 := tk_rng v22
    rw [hf21] at hpo10 hpo11
    have hr_v22 : 0 ≤ v22.toInt ∧ v22.toInt ≤ 3 := hIF.at hf21
    obtain ⟨w24, hf23⟩ : ∃ z : Int64, G 17 = z := ⟨_, rfl⟩
    have hq_w24 := tk_rngL w24
    rw [hf23] at hpo11
    obtain ⟨v26, hf25⟩ : ∃ z : Int32, F 19 = z := ⟨_, rfl⟩
    have hq_v26 := tk_rng v26
    rw [hf25] at hpo13 hpo14 hpo15
    have hr_v26 : 0 ≤ v26.toInt ∧ v26.toInt ≤ 1 := hIF.at hf25
    have hPI := hPI.to (hrr9 24 (by decide)) (hrr9 25 (by decide)) (hrr9 27 (by decide)) (hrr9 28 (by decide)) rfl rfl
    have hLo := And.intro (hLo.1.to (hrr9 24 (by decide))) (hLo.2.to (hrr9 25 (by decide)))
    have hSq := hSq.to (hrr9 27 (by decide)) (Nat.le_refl _)
    refine lv_aload_n hx hb dX13_openBracket_18 rfl (lv_at hl 0 rfl) ?_
    refine mz_getI hx hb htl hown hK hM 19 (Nat.le_of_ble_eq_true rfl) rfl (htl _ mw_668) (fun _ h9 => h9) dX13_openBracket_19 (fun v9 e9 => ?_)
    refine fx_ti (v := v26) (e9.symm.trans hf25) ?_
    refine lv_if_ne (tgt := 41) hx hb dX13_openBracket_22 (by decide) (fun c9 => ?_) (fun c9 => ?_)
    · have hc27 : ¬ (v26.toInt = 0) := fun h9 => c9 ((fi_eq rfl (show (0 : Int32).toInt = 0 by decide)).mpr h9)
      exact mz_vret hx hb hr hlocks ⟨hIF, hIG, hIR, hFF, hRR, hGG, (by rw [hf17, hf19]; omega), (by rw [hf19]; omega), (by rw [hf17, hf19, hf21]; omega), (by rw [hf17, hf19, hf21, hf23]; omega), (by rw [hf17]; omega), (by rw [hf17, hg_6, hg_7]; omega), (by rw [hg_6]; omega), (by rw [hf17, hf25]; omega), (by rw [hf25]; exact fun h9 => absurd h9 (by omega))⟩ hM hS dX13_openBracket_41
    · have hc27 : v26.toInt = 0 := (fi_eq rfl (show (0 : Int32).toInt = 0 by decide)).mp c9
      have hwk_28 : 0 ≤ (-1) * gt.toInt + v18.toInt ∧ 0 ≤ (-1) := by omega
      exfalso
      omega
  · have hc4 : ¬ (8 ≤ v3.toInt) := fun h9 => c9 ((fi_le (show (8 : Int32).toInt = 8 by decide) rfl).mpr h9)
    refine lv_iconst (v := 1) hx hb dX13_openBracket_10 (by decide) ?_
    refine lv_goto (tgt := 15) hx hb dX13_openBracket_11 (by decide) ?_
    have hk_1 : (1 : Int32).toInt = 1 := by decide
    refine mz_Vv (As := [.int 1]) (rest := []) ⟨hx, hb, hml, hown, hts⟩ hK hM hS (k_X13_must l D cy ld ad am hD _ _ _ _ 1 gf gt gs gp gw gb hIF hIG hIR hg_0 hg_1 hg_2 hg_3 hg_4 hg_5 (by omega) (by omega) (by omega) (by omega) (by omega) (by omega)) ⟨callB_of 1 hts (wl_in mw_713) rfl rfl rfl (htl _ mw_5) (htl _ mw_710) hd_yX13_must ⟨(Nat.le_of_ble_eq_true rfl), (Nat.le_of_ble_eq_true rfl)⟩, htl _ mw_711, htl _ mw_712⟩ rfl hl.1 rfl (Nat.le_of_ble_eq_true rfl) dX13_openBracket_15 ⟨(Nat.le_of_ble_eq_true rfl), (Nat.le_of_ble_eq_true rfl)⟩ (fun H locs F G R S hpo hM hS => ?_)
    obtain ⟨hIF, hIG, hIR, hfr9, hrr9, hgr9, hpo29, hpo30, hpo31, hpo32, hpo33, hpo34, hpo35, hpo36⟩ := hpo
    have hFF := mz_fr (K := [14, 15, 16, 18, 19, 29, 30]) (Fa := Fa) hfr9 (fun _ _ => rfl) (by decide)
    have hRR := mz_fr (K := [27, 28]) (Fa := Ra) hrr9 (fun _ _ => rfl) (by decide)
    have hGG := mz_fr (K := [17]) (Fa := Ga) hgr9 (fun _ _ => rfl) (by decide)
    have hg_3 := (hfr9 13 (by decide)).trans hg_3
    have hg_6 := (hfr9 23 (by decide)).trans hg_6
    have hg_7 := (hfr9 29 (by decide)).trans hg_7
    have hf2 := (hfr9 30 (by decide)).trans hf2
    obtain ⟨v39, hf38⟩ : ∃ z : Int32, F 14 = z := ⟨_, rfl⟩
    have hq_v39 := tk_rng v39
    rw [hf38] at hpo29 hpo31 hpo32 hpo33 hpo35
    have hr_v39 : 0 ≤ v39.toInt ∧ v39.toInt ≤ 400 := hIF.at hf38
    obtain ⟨v41, hf40⟩ : ∃ z : Int32, F 15 = z := ⟨_, rfl⟩
    have hq_v41 := tk_rng v41
    rw [hf40] at hpo29 hpo30 hpo31 hpo32
    have hr_v41 : 0 ≤ v41.toInt ∧ v41.toInt ≤ 400 := hIF.at hf40
    obtain ⟨v43, hf42⟩ : ∃ z : Int32, F 16 = z := ⟨_, rfl⟩
    have hq_v43 := tk_rng v43
    rw [hf42] at hpo31 hpo32
    have hr_v43 : 0 ≤ v43.toInt ∧ v43.toInt ≤ 3 := hIF.at hf42
    obtain ⟨w45, hf44⟩ : ∃ z : Int64, G 17 = z := ⟨_, rfl⟩
    have hq_w45 := tk_rngL w45
    rw [hf44] at hpo32
    obtain ⟨v47, hf46⟩ : ∃ z : Int32, F 19 = z := ⟨_, rfl⟩
    have hq_v47 := tk_rng v47
    rw [hf46] at hpo34 hpo35 hpo36
    have hr_v47 : 0 ≤ v47.toInt ∧ v47.toInt ≤ 1 := hIF.at hf46
    have hwk_48 : v47.toInt ≤ 0 := by omega
    have hwk_49 : 0 ≤ (-1) * gt.toInt + v39.toInt := by omega
    have hPI := hPI.to (hrr9 24 (by decide)) (hrr9 25 (by decide)) (hrr9 27 (by decide)) (hrr9 28 (by decide)) rfl rfl
    have hLo := And.intro (hLo.1.to (hrr9 24 (by decide))) (hLo.2.to (hrr9 25 (by decide)))
    have hSq := hSq.to (hrr9 27 (by decide)) (Nat.le_refl _)
    refine lv_aload_n hx hb dX13_openBracket_18 rfl (lv_at hl 0 rfl) ?_
    refine mz_getI hx hb htl hown hK hM 19 (Nat.le_of_ble_eq_true rfl) rfl (htl _ mw_668) (fun _ h9 => h9) dX13_openBracket_19 (fun v9 e9 => ?_)
    refine fx_ti (v := v47) (e9.symm.trans hf46) ?_
    refine lv_if_ne (tgt := 41) hx hb dX13_openBracket_22 (by decide) (fun c9 => absurd ((fi_eq rfl (show (0 : Int32).toInt = 0 by decide)).mpr (show v47.toInt = 0 by omega)) c9) (fun _ => ?_)
    refine lv_aload_n hx hb dX13_openBracket_25 rfl (lv_at hl 0 rfl) ?_
    refine lv_dup hx hb dX13_openBracket_26 rfl ?_
    refine mz_getI hx hb htl hown hK hM 30 (Nat.le_of_ble_eq_true rfl) rfl (htl _ mw_719) (fun _ h9 => h9) dX13_openBracket_27 (fun v9 e9 => ?_)
    refine fx_ti (v := v3) (e9.symm.trans hf2) ?_
    refine lv_iconst (v := 1) hx hb dX13_openBracket_30 (by decide) ?_
    refine lv_iadd hx hb dX13_openBracket_31 ?_
    refine tk_add rfl (show (1 : Int32).toInt = 1 by decide) (by omega) (by omega) (fun v50 h_v50 => ?_)
    refine mz_putI (ty := .int) (x := v50) hx hb htl hown hK hD hM hS 30 (Nat.le_of_ble_eq_true rfl) rfl (htl _ mw_719) (fun _ h9 => h9) rfl (tyX13_ok 30 (by decide)) rfl rfl dX13_openBracket_32 (fun H locs F hM hS hf9 hj9 => ?_)
    have hIF := hIF.put hf9 hj9 (tk_rng _).1 (tk_rng _).2 (by decide)
    have hFF := mz_frp (K := [14, 15, 16, 18, 19, 29, 30]) (Fa := Fa) hj9 hFF (by decide)
    have hg_3 := (hj9 13 (by decide)).trans hg_3
    have hg_6 := (hj9 23 (by decide)).trans hg_6
    have hg_7 := (hj9 29 (by decide)).trans hg_7
    have hf38 := (hj9 14 (by decide)).trans hf38
    have hf40 := (hj9 15 (by decide)).trans hf40
    have hf42 := (hj9 16 (by decide)).trans hf42
    have hf46 := (hj9 19 (by decide)).trans hf46
    have hf52 := hf9
    refine lv_aload_n hx hb dX13_openBracket_35 rfl (lv_at hl 0 rfl) ?_
    refine lv_iload_n hx hb dX13_openBracket_36 rfl (lv_at hl 1 rfl) ?_
    refine lv_iconst (v := 0) hx hb dX13_openBracket_37 (by decide) ?_
    have hk_31 : (31 : Int32).toInt = 31 := by decide
    have hk_0 : (0 : Int32).toInt = 0 := by decide
    refine mz_Vv (As := [.int 31, .int 0]) (rest := []) ⟨hx, hb, hml, hown, hts⟩ hK hM hS (k_X13_push l D cy ld ad am hD _ _ _ _ 31 0 gd hIF hIG hIR hg_7 (by omega) (by omega) (by omega)) ⟨callB_of 2 hts (wl_in mw_728) rfl rfl rfl (htl _ mw_5) (htl _ mw_725) hd_yX13_push ⟨(Nat.le_of_ble_eq_true rfl), (Nat.le_of_ble_eq_true rfl)⟩, htl _ mw_726, htl _ mw_727⟩ rfl hl.1 rfl (Nat.le_of_ble_eq_true rfl) dX13_openBracket_38 ⟨(Nat.le_of_ble_eq_true rfl), (Nat.le_of_ble_eq_true rfl)⟩ (fun H locs F G R S hpo hM hS => ?_)
    obtain ⟨hIF, hIG, hIR, hfr9, hrr9, hgr9, hpo53, hx54, hx55⟩ := hpo
    have hFF := mz_fr (K := [14, 15, 16, 18, 19, 29, 30]) (Fa := Fa) hfr9 hFF (by decide)
    have hRR := mz_fr (K := [27, 28]) (Fa := Ra) hrr9 hRR (by decide)
    have hGG := mz_fr (K := [17]) (Fa := Ga) hgr9 hGG (by decide)
    have hg_3 := (hfr9 13 (by decide)).trans hg_3
    have hg_6 := (hfr9 23 (by decide)).trans hg_6
    have hf38 := (hfr9 14 (by decide)).trans hf38
    have hf40 := (hfr9 15 (by decide)).trans hf40
    have hf42 := (hfr9 16 (by decide)).trans hf42
    have hf44 := (hgr9 17 (by decide)).trans hf44
    have hf46 := (hfr9 19 (by decide)).trans hf46
    have hf52 := (hfr9 30 (by decide)).trans hf52
    obtain ⟨v58, hf57⟩ : ∃ z : Int32, F 29 = z := ⟨_, rfl⟩
    have hq_v58 := tk_rng v58
    rw [hf57] at hpo53
    have hr_v58 : 0 ≤ v58.toInt ∧ v58.toInt ≤ 400 := hIF.at hf57
    have hPI : PI (R 24) (R 25) (R 27) (R 28) zs gc.toInt.toNat v58.toInt.toNat 0 := (PI.push (o := 31) hPI (by decide) (by decide) (by decide) (by decide) (Or.inr (Or.inr hSq)) hx54 hx55).to (hrr9 24 (by decide)) (hrr9 25 (by decide)) rfl rfl rfl (by omega)
    have hLo := And.intro (hLo.1.to (hrr9 24 (by decide))) (hLo.2.to (hrr9 25 (by decide)))
    have hSq : nSq (R 27) v58.toInt.toNat := (hSq.push hx54 (by decide)).to rfl (by omega)
    exact mz_vret hx hb hr hlocks ⟨hIF, hIG, hIR, hFF, hRR, hGG, (by rw [hf38, hf40]; omega), (by rw [hf40]; omega), (by rw [hf38, hf40, hf42]; omega), (by rw [hf38, hf40, hf42, hf44]; omega), (by rw [hf38]; omega), (by rw [hf38, hg_6, hf57]; omega), (by rw [hg_6]; omega), (by rw [hf38, hf46]; omega), (fun _ => ⟨PT.mk hPI (by decide) (fun _ => hSq) (fun h9 => absurd h9 (by decide)) rfl rfl rfl rfl (by rw [hg_6]) (by rw [hf57]), hLo⟩)⟩ hM hS dX13_openBracket_41
end
section
theorem hd_yX13_readPart : yX13_readPart.cls ≠ "java/lang/invoke/MethodHandle" ∧ yX13_readPart.cls ≠ "java/lang/invoke/VarHandle" ∧ (parseMethodDescriptor yX13_readPart.desc).map (fun d => d.parameters.length) = some 0 := by decide +kernel
theorem dX13_readPlain_0 : decode cX13_readPlain 0 = .ok (.aload_n 0, 1) := by decide +kernel
theorem dX13_readPlain_1 : decode cX13_readPlain 1 = .ok (.ldc2_w 337, 3) := by decide +kernel
theorem dX13_readPlain_4 : decode cX13_readPlain 4 = .ok (.invokevirtual 296, 3) := by decide +kernel
theorem dX13_readPlain_7 : decode cX13_readPlain 7 = .ok (.ifCond .eq 16, 3) := by decide +kernel
theorem dX13_readPlain_23 : decode cX13_readPlain 23 = .ok (.aload_n 0, 1) := by decide +kernel
theorem dX13_readPlain_24 : decode cX13_readPlain 24 = .ok (.bipush 40, 2) := by decide +kernel
theorem dX13_readPlain_26 : decode cX13_readPlain 26 = .ok (.invokevirtual 309, 3) := by decide +kernel
theorem dX13_readPlain_29 : decode cX13_readPlain 29 = .ok (.ifCond .eq 11, 3) := by decide +kernel
theorem dX13_readPlain_40 : decode cX13_readPlain 40 = .ok (.aload_n 0, 1) := by decide +kernel
theorem dX13_readPlain_41 : decode cX13_readPlain 41 = .ok (.invokevirtual 339, 3) := by decide +kernel
theorem dX13_readPlain_44 : decode cX13_readPlain 44 = .ok (.ireturn, 1) := by decide +kernel
theorem dX13_readPlain_32 : decode cX13_readPlain 32 = .ok (.aload_n 0, 1) := by decide +kernel
theorem dX13_readPlain_33 : decode cX13_readPlain 33 = .ok (.bipush 31, 2) := by decide +kernel
theorem dX13_readPlain_35 : decode cX13_readPlain 35 = .ok (.invokevirtual 312, 3) := by decide +kernel
theorem dX13_readPlain_38 : decode cX13_readPlain 38 = .ok (.iconst 0, 1) := by decide +kernel
theorem dX13_readPlain_39 : decode cX13_readPlain 39 = .ok (.ireturn, 1) := by decide +kernel
theorem dX13_readPlain_10 : decode cX13_readPlain 10 = .ok (.aload_n 0, 1) := by decide +kernel
theorem dX13_readPlain_11 : decode cX13_readPlain 11 = .ok (.bipush 28, 2) := by decide +kernel
theorem dX13_readPlain_13 : decode cX13_readPlain 13 = .ok (.iconst 0, 1) := by decide +kernel
theorem dX13_readPlain_14 : decode cX13_readPlain 14 = .ok (.invokevirtual 303, 3) := by decide +kernel
theorem dX13_readPlain_17 : decode cX13_readPlain 17 = .ok (.aload_n 0, 1) := by decide +kernel
theorem dX13_readPlain_18 : decode cX13_readPlain 18 = .ok (.invokevirtual 240, 3) := by decide +kernel
theorem dX13_readPlain_21 : decode cX13_readPlain 21 = .ok (.iconst 0, 1) := by decide +kernel
theorem dX13_readPlain_22 : decode cX13_readPlain 22 = .ok (.ireturn, 1) := by decide +kernel
set_option maxHeartbeats 4000000 in
set_option maxRecDepth 100000 in
theorem k_X13_readPlain (l : Launch) (D : va_G) (cy : Nat → ClassId) (ld ad : Nat → Nat) (am : Nat) (hD : mz_D ad am) (Fa : Nat → Int32) (Ga : Nat → Int64) (Ra : Nat → Nat → Int32) (Sa : Nat → Nat → Int64) (gf : Int32) (gt : Int32) (gs : Int32) (gp : Int32) (gw : Int64) (gb : Int32) (gc : Int32) (gd : Int32) (zs : Nat) (hIF : mz_IF false Fa) (hIG : mz_IG Ga) (hIR : mz_IR [] true Ra) (hg_0 : Fa 14 = gf) (hg_1 : Fa 15 = gt) (hg_2 : Fa 16 = gs) (hg_3 : Fa 13 = gp) (hg_4 : Ga 17 = gw) (hg_5 : Fa 19 = gb) (hg_6 : Fa 23 = gc) (hg_7 : Fa 29 = gd) (hp_0 : 0 ≤ (-1) * gf.toInt + gt.toInt) (hp_1 : 0 ≤ gp.toInt + (-1) * gt.toInt) (hp_2 : (1 ≤ gs.toInt → 0 ≤ (-1) * gf.toInt + gt.toInt + (-1))) (hp_3 : (27 ≤ gw.toInt → 1 ≤ gs.toInt → gs.toInt ≤ 1 → 0 ≤ (-1) * gf.toInt + gt.toInt + (-2))) (hp_4 : 0 ≤ (-1) * gc.toInt + (-1) * gd.toInt + gf.toInt) (hp_5 : gb.toInt ≤ 0) (hx_0 : PT (Ra 24) (Ra 25) (Ra 27) (Ra 28) zs gc.toInt.toNat gd.toInt.toNat 0) : Met l yX13_readPlain (wl yX13_readPlain cX13_readPlain 1 (some .int)) ({ frames := 8, cells := 0, slots := 0, locals := 490 }) (mz_p D cy ld ad am Fa Ga Ra Sa [.ref am]) (mz_i D cy ad am (fun r F G R S => mz_IF false F ∧ mz_IG G ∧ mz_IR [] true R ∧ (∀ k : Nat, k ∉ ([14, 15, 16, 18, 19, 23, 26, 29, 30] : List Nat) → F k = Fa k) ∧ (∀ k : Nat, k ∉ ([24, 25, 27, 28] : List Nat) → R k = Ra k) ∧ (∀ k : Nat, k ∉ ([17] : List Nat) → G k = Ga k) ∧ 0 ≤ (-1) * (F 14).toInt + (F 15).toInt ∧ 0 ≤ gp.toInt + (-1) * (F 15).toInt ∧ (1 ≤ (F 16).toInt → 0 ≤ (-1) * (F 14).toInt + (F 15).toInt + (-1)) ∧ (27 ≤ (G 17).toInt → 1 ≤ (F 16).toInt → (F 16).toInt ≤ 1 → 0 ≤ (-1) * (F 14).toInt + (F 15).toInt + (-2)) ∧ 0 ≤ (-1) * gf.toInt + (F 14).toInt ∧ 0 ≤ (-1) * (F 23).toInt + (-1) * (F 29).toInt + (F 14).toInt ∧ 0 ≤ (-1) * gc.toInt + (F 23).toInt ∧ ((F 19).toInt ≤ 0 → 0 ≤ (-1) * gf.toInt + (F 14).toInt + (-1)) ∧ 0 ≤ r.toInt ∧ r.toInt ≤ 3 ∧ ((F 19).toInt = 0 → PT (R 24) (R 25) (R 27) (R 28) zs (F 23).toInt.toNat (F 29).toInt.toNat r.toInt ∧ low zs (Ra 24) (R 24) ∧ low zs (Ra 25) (R 25)))) 0 0 (mz_W ad am) := by
  refine mz_met (y := yX13_readPlain) (cc := cX13_readPlain) (maxL := 1) (ret := (some .int)) (av := [.ref am]) _ (by decide) (Nat.le_of_ble_eq_true rfl) ?_
  intro p e s m args below meth c hx hb hr hml hts htl hown hlocks hK H locs hM hS ls hl
  have hown : s.vm.findClass RX13 = some m.cls := hown
  have hl : lv_has ls 1 [(0, .ref am)] := hl
  have hq_gf := tk_rng gf
  have hq_gt := tk_rng gt
  have hq_gs := tk_rng gs
  have hq_gp := tk_rng gp
  have hq_gw := tk_rngL gw
  have hq_gb := tk_rng gb
  have hq_gc := tk_rng gc
  have hq_gd := tk_rng gd
  have hr_gf : 0 ≤ gf.toInt ∧ gf.toInt ≤ 400 := hIF.at hg_0
  have hr_gt : 0 ≤ gt.toInt ∧ gt.toInt ≤ 400 := hIF.at hg_1
  have hr_gs : 0 ≤ gs.toInt ∧ gs.toInt ≤ 3 := hIF.at hg_2
  have hr_gp : 0 ≤ gp.toInt ∧ gp.toInt ≤ 400 := hIF.at hg_3
  have hr_gb : 0 ≤ gb.toInt ∧ gb.toInt ≤ 1 := hIF.at hg_5
  have hr_gc : 0 ≤ gc.toInt ∧ gc.toInt ≤ 400 := hIF.at hg_6
  have hr_gd : 0 ≤ gd.toInt ∧ gd.toInt ≤ 400 := hIF.at hg_7
  have hPI : PI (Ra 24) (Ra 25) (Ra 27) (Ra 28) zs gc.toInt.toNat gd.toInt.toNat 0 := hx_0.p (by decide)
  have hLo := And.intro (low.refl zs (Ra 24)) (low.refl zs (Ra 25))
  have hSq : nSq (Ra 27) gd.toInt.toNat := hx_0.2.1 (by decide)
  refine lv_aload_n hx hb dX13_readPlain_0 rfl (lv_at hl 0 rfl) ?_
  refine lv_ldc2 hx hb hown (htl _ mw_724) dX13_readPlain_1 ?_
  have hk_14836 : (14836 : Int64).toInt = 14836 := by decide
  refine mz_Vj (As := [.long 14836]) (rest := []) ⟨hx, hb, hml, hown, hts⟩ hK hM hS (k_X13_isWord l D cy ld ad am hD _ _ _ _ 14836 gs gw hIF hIG hIR hg_2 hg_4) ⟨callB_of 1 hts (wl_in mw_709) rfl rfl rfl (htl _ mw_5) (htl _ mw_706) hd_yX13_isWord ⟨(Nat.le_of_ble_eq_true rfl), (Nat.le_of_ble_eq_true rfl)⟩, htl _ mw_707, htl _ mw_708⟩ rfl hl.1 rfl (Nat.le_of_ble_eq_true rfl) dX13_readPlain_4 ⟨(Nat.le_of_ble_eq_true rfl), (Nat.le_of_ble_eq_true rfl)⟩ (fun v1 H locs hpo hM hS => ?_)
  obtain ⟨hpo2, hpo3, hpo4, hpo5, hpo6⟩ := hpo
  have hq_v1 := tk_rng v1
  refine lv_if_eq (tgt := 23) hx hb dX13_readPlain_7 (by decide) (fun c9 => ?_) (fun c9 => ?_)
  · have hc11 : v1.toInt = 0 := (fi_eq rfl (show (0 : Int32).toInt = 0 by decide)).mp c9
    refine lv_aload_n hx hb dX13_readPlain_23 rfl (lv_at hl 0 rfl) ?_
    refine lv_bipush (v := 40) hx hb dX13_readPlain_24 (by decide) ?_
    have hk_40 : (40 : Int32).toInt = 40 := by decide
    refine mz_Vj (As := [.int 40]) (rest := []) ⟨hx, hb, hml, hown, hts⟩ hK hM hS (k_X13_isSign l D cy ld ad am hD _ _ _ _ 40 gs hIF hIG hIR hg_2) ⟨callB_of 1 hts (wl_in mw_732) rfl rfl rfl (htl _ mw_5) (htl _ mw_729) hd_yX13_isSign ⟨(Nat.le_of_ble_eq_true rfl), (Nat.le_of_ble_eq_true rfl)⟩, htl _ mw_730, htl _ mw_731⟩ rfl hl.1 rfl (Nat.le_of_ble_eq_true rfl) dX13_readPlain_26 ⟨(Nat.le_of_ble_eq_true rfl), (Nat.le_of_ble_eq_true rfl)⟩ (fun v12 H locs hpo hM hS => ?_)
    obtain ⟨hpo13, hpo14, hpo15, hpo16, hpo17⟩ := hpo
    have hq_v12 := tk_rng v12
    refine lv_if_eq (tgt := 40) hx hb dX13_readPlain_29 (by decide) (fun c9 => ?_) (fun c9 => ?_)
    · have hc19 : v12.toInt = 0 := (fi_eq rfl (show (0 : Int32).toInt = 0 by decide)).mp c9
      refine lv_aload_n hx hb dX13_readPlain_40 rfl (lv_at hl 0 rfl) ?_
      refine mz_Vi (As := []) (rest := []) ⟨hx, hb, hml, hown, hts⟩ hK hM hS (k_X13_readPart l D cy ld ad am hD _ _ _ _ gf gt gs gp gw gb gc gd zs hIF hIG hIR hg_0 hg_1 hg_2 hg_3 hg_4 hg_5 hg_6 hg_7 (by omega) (by omega) (by omega) (by omega) (by omega) (by omega) hPI) ⟨callB_of 0 hts (wl_in mw_740) rfl rfl rfl (htl _ mw_5) (htl _ mw_737) hd_yX13_readPart ⟨(Nat.le_of_ble_eq_true rfl), (Nat.le_of_ble_eq_true rfl)⟩, htl _ mw_738, htl _ mw_739⟩ rfl hl.1 rfl (Nat.le_of_ble_eq_true rfl) dX13_readPlain_41 ⟨(Nat.le_of_ble_eq_true rfl), (Nat.le_of_ble_eq_true rfl)⟩ (fun v20 H locs F G R S hpo hM hS => ?_)
      obtain ⟨hIF, hIG, hIR, hfr9, hrr9, hgr9, hpo21, hpo22, hpo23, hpo24, hpo25, hpo26, hpo27, hpo28, hpo29, hpo30, hx31⟩ := hpo
      have hq_v20 := tk_rng v20
      have hFF := mz_fr (K := [14, 15, 16, 18, 19, 23, 26, 29, 30]) (Fa := Fa) hfr9 (fun _ _ => rfl) (by decide)
      have hRR := mz_fr (K := [24, 25, 27, 28]) (Fa := Ra) hrr9 (fun _ _ => rfl) (by decide)
      have hGG := mz_fr (K := [17]) (Fa := Ga) hgr9 (fun _ _ => rfl) (by decide)
      have hg_3 := (hfr9 13 (by decide)).trans hg_3
      obtain ⟨v34, hf33⟩ : ∃ z : Int32, F 14 = z := ⟨_, rfl⟩
      have hq_v34 := tk_rng v34
      rw [hf33] at hpo21 hpo23 hpo24 hpo25 hpo26 hpo28
      have hr_v34 : 0 ≤ v34.toInt ∧ v34.toInt ≤ 400 := hIF.at hf33
      obtain ⟨v36, hf35⟩ : ∃ z : Int32, F 15 = z := ⟨_, rfl⟩
      have hq_v36 := tk_rng v36
      rw [hf35] at hpo21 hpo22 hpo23 hpo24
      have hr_v36 : 0 ≤ v36.toInt ∧ v36.toInt ≤ 400 := hIF.at hf35
      obtain ⟨v38, hf37⟩ : ∃ z : Int32, F 16 = z := ⟨_, rfl⟩
      have hq_v38 := tk_rng v38
      rw [hf37] at hpo23 hpo24
      have hr_v38 : 0 ≤ v38.toInt ∧ v38.toInt ≤ 3 := hIF.at hf37
      obtain ⟨w40, hf39⟩ : ∃ z : Int64, G 17 = z := ⟨_, rfl⟩
      have hq_w40 := tk_rngL w40
      rw [hf39] at hpo24
      obtain ⟨v42, hf41⟩ : ∃ z : Int32, F 19 = z := ⟨_, rfl⟩
      have hq_v42 := tk_rng v42
      rw [hf41] at hpo28
      have hr_v42 : 0 ≤ v42.toInt ∧ v42.toInt ≤ 1 := hIF.at hf41
      obtain ⟨v44, hf43⟩ : ∃ z : Int32, F 23 = z := ⟨_, rfl⟩
      have hq_v44 := tk_rng v44
      rw [hf43] at hpo26 hpo27
      have hr_v44 : 0 ≤ v44.toInt ∧ v44.toInt ≤ 400 := hIF.at hf43
      obtain ⟨v46, hf45⟩ : ∃ z : Int32, F 29 = z := ⟨_, rfl⟩
      have hq_v46 := tk_rng v46
      rw [hf45] at hpo26
      have hr_v46 : 0 ≤ v46.toInt ∧ v46.toInt ≤ 400 := hIF.at hf45
      exact mz_iret (v := v20) hx hb hr rfl hlocks ⟨hIF, hIG, hIR, hFF, hRR, hGG, (by rw [hf33, hf35]; omega), (by rw [hf35]; omega), (by rw [hf33, hf35, hf37]; omega), (by rw [hf33, hf35, hf37, hf39]; omega), (by rw [hf33]; omega), (by rw [hf33, hf43, hf45]; omega), (by rw [hf43]; omega), (by rw [hf33, hf41]; omega), (by omega), (by omega), (fun h9 => hx31 h9)⟩ hM hS dX13_readPlain_44
    · have hc19 : ¬ (v12.toInt = 0) := fun h9 => c9 ((fi_eq rfl (show (0 : Int32).toInt = 0 by decide)).mpr h9)
      have hwk_47 : gs.toInt + (-3) = 0 := by omega
      have hwk_48 : 0 ≤ (-1) * gf.toInt + gt.toInt + (-1) := by omega
      refine lv_aload_n hx hb dX13_readPlain_32 rfl (lv_at hl 0 rfl) ?_
      refine lv_bipush (v := 31) hx hb dX13_readPlain_33 (by decide) ?_
      have hk_31 : (31 : Int32).toInt = 31 := by decide
      refine mz_Vv (As := [.int 31]) (rest := []) ⟨hx, hb, hml, hown, hts⟩ hK hM hS (k_X13_openBracket_31 l D cy ld ad am hD _ _ _ _ gf gt gs gp gw gb gc gd zs hIF hIG hIR hg_0 hg_1 hg_2 hg_3 hg_4 hg_5 hg_6 hg_7 (by omega) (by omega) (by omega) (by omega) (by omega) (by omega) (by omega) (PT.mk hPI (by decide) (fun _ => hSq) (fun h9 => absurd h9 (by decide)) rfl rfl rfl rfl rfl rfl)) ⟨callB_of 1 hts (wl_in mw_736) rfl rfl rfl (htl _ mw_5) (htl _ mw_733) hd_yX13_openBracket ⟨(Nat.le_of_ble_eq_true rfl), (Nat.le_of_ble_eq_true rfl)⟩, htl _ mw_734, htl _ mw_735⟩ rfl hl.1 rfl (Nat.le_of_ble_eq_true rfl) dX13_readPlain_35 ⟨(Nat.le_of_ble_eq_true rfl), (Nat.le_of_ble_eq_true rfl)⟩ (fun H locs F G R S hpo hM hS => ?_)
      obtain ⟨hIF, hIG, hIR, hfr9, hrr9, hgr9, hpo49, hpo50, hpo51, hpo52, hpo53, hpo54, hpo55, hpo56, hx57⟩ := hpo
      have hFF := mz_fr (K := [14, 15, 16, 18, 19, 23, 26, 29, 30]) (Fa := Fa) hfr9 (fun _ _ => rfl) (by decide)
      have hRR := mz_fr (K := [24, 25, 27, 28]) (Fa := Ra) hrr9 (fun _ _ => rfl) (by decide)
      have hGG := mz_fr (K := [17]) (Fa := Ga) hgr9 (fun _ _ => rfl) (by decide)
      have hg_3 := (hfr9 13 (by decide)).trans hg_3
      have hg_6 := (hfr9 23 (by decide)).trans hg_6
      obtain ⟨v60, hf59⟩ : ∃ z : Int32, F 14 = z := ⟨_, rfl⟩
      have hq_v60 := tk_rng v60
      rw [hf59] at hpo49 hpo51 hpo52 hpo53 hpo54 hpo56
      have hr_v60 : 0 ≤ v60.toInt ∧ v60.toInt ≤ 400 := hIF.at hf59
      obtain ⟨v62, hf61⟩ : ∃ z : Int32, F 15 = z := ⟨_, rfl⟩
      have hq_v62 := tk_rng v62
      rw [hf61] at hpo49 hpo50 hpo51 hpo52
      have hr_v62 : 0 ≤ v62.toInt ∧ v62.toInt ≤ 400 := hIF.at hf61
      obtain ⟨v64, hf63⟩ : ∃ z : Int32, F 16 = z := ⟨_, rfl⟩
      have hq_v64 := tk_rng v64
      rw [hf63] at hpo51 hpo52
      have hr_v64 : 0 ≤ v64.toInt ∧ v64.toInt ≤ 3 := hIF.at hf63
      obtain ⟨w66, hf65⟩ : ∃ z : Int64, G 17 = z := ⟨_, rfl⟩
      have hq_w66 := tk_rngL w66
      rw [hf65] at hpo52
      obtain ⟨v68, hf67⟩ : ∃ z : Int32, F 19 = z := ⟨_, rfl⟩
      have hq_v68 := tk_rng v68
      rw [hf67] at hpo56
      have hr_v68 : 0 ≤ v68.toInt ∧ v68.toInt ≤ 1 := hIF.at hf67
      rw [hg_6] at hpo54 hpo55
      have hr_gc : 0 ≤ gc.toInt ∧ gc.toInt ≤ 400 := hIF.at hg_6
      obtain ⟨v70, hf69⟩ : ∃ z : Int32, F 29 = z := ⟨_, rfl⟩
      have hq_v70 := tk_rng v70
      rw [hf69] at hpo54
      have hr_v70 : 0 ≤ v70.toInt ∧ v70.toInt ≤ 400 := hIF.at hf69
      refine lv_iconst (v := 0) hx hb dX13_readPlain_38 (by decide) ?_
      have hk_0 : (0 : Int32).toInt = 0 := by decide
      exact mz_iret (v := 0) hx hb hr rfl hlocks ⟨hIF, hIG, hIR, hFF, hRR, hGG, (by rw [hf59, hf61]; omega), (by rw [hf61]; omega), (by rw [hf59, hf61, hf63]; omega), (by rw [hf59, hf61, hf63, hf65]; omega), (by rw [hf59]; omega), (by rw [hf59, hg_6, hf69]; omega), (by rw [hg_6]; omega), (by rw [hf59, hf67]; omega), (by omega), (by omega), (fun h9 => hx57 h9)⟩ hM hS dX13_readPlain_39
  · have hc11 : ¬ (v1.toInt = 0) := fun h9 => c9 ((fi_eq rfl (show (0 : Int32).toInt = 0 by decide)).mpr h9)
    have hwk_71 : gw.toInt + (-14836) = 0 ∧ gs.toInt + (-1) = 0 := by omega
    have hwk_72 : 0 ≤ (-1) * gf.toInt + gt.toInt + (-1) := by omega
    have hwk_73 : 0 ≤ (-1) * gf.toInt + gt.toInt + (-2) := by omega
    refine lv_aload_n hx hb dX13_readPlain_10 rfl (lv_at hl 0 rfl) ?_
    refine lv_bipush (v := 28) hx hb dX13_readPlain_11 (by decide) ?_
    refine lv_iconst (v := 0) hx hb dX13_readPlain_13 (by decide) ?_
    have hk_28 : (28 : Int32).toInt = 28 := by decide
    have hk_0 : (0 : Int32).toInt = 0 := by decide
    refine mz_Vv (As := [.int 28, .int 0]) (rest := []) ⟨hx, hb, hml, hown, hts⟩ hK hM hS (k_X13_push l D cy ld ad am hD _ _ _ _ 28 0 gd hIF hIG hIR hg_7 (by omega) (by omega) (by omega)) ⟨callB_of 2 hts (wl_in mw_728) rfl rfl rfl (htl _ mw_5) (htl _ mw_725) hd_yX13_push ⟨(Nat.le_of_ble_eq_true rfl), (Nat.le_of_ble_eq_true rfl)⟩, htl _ mw_726, htl _ mw_727⟩ rfl hl.1 rfl (Nat.le_of_ble_eq_true rfl) dX13_readPlain_14 ⟨(Nat.le_of_ble_eq_true rfl), (Nat.le_of_ble_eq_true rfl)⟩ (fun H locs F G R S hpo hM hS => ?_)
    obtain ⟨hIF, hIG, hIR, hfr9, hrr9, hgr9, hpo74, hx75, hx76⟩ := hpo
    have hFF := mz_fr (K := [14, 15, 16, 18, 19, 23, 26, 29, 30]) (Fa := Fa) hfr9 (fun _ _ => rfl) (by decide)
    have hRR := mz_fr (K := [24, 25, 27, 28]) (Fa := Ra) hrr9 (fun _ _ => rfl) (by decide)
    have hGG := mz_fr (K := [17]) (Fa := Ga) hgr9 (fun _ _ => rfl) (by decide)
    have hg_0 := (hfr9 14 (by decide)).trans hg_0
    have hg_1 := (hfr9 15 (by decide)).trans hg_1
    have hg_2 := (hfr9 16 (by decide)).trans hg_2
    have hg_3 := (hfr9 13 (by decide)).trans hg_3
    have hg_4 := (hgr9 17 (by decide)).trans hg_4
    have hg_5 := (hfr9 19 (by decide)).trans hg_5
    have hg_6 := (hfr9 23 (by decide)).trans hg_6
    obtain ⟨v79, hf78⟩ : ∃ z : Int32, F 29 = z := ⟨_, rfl⟩
    have hq_v79 := tk_rng v79
    rw [hf78] at hpo74
    have hr_v79 : 0 ≤ v79.toInt ∧ v79.toInt ≤ 400 := hIF.at hf78
    have hPI : PI (R 24) (R 25) (R 27) (R 28) zs gc.toInt.toNat v79.toInt.toNat 0 := (PI.push (o := 28) hPI (by decide) (by decide) (by decide) (by decide) (Or.inr (Or.inr hSq)) hx75 hx76).to (hrr9 24 (by decide)) (hrr9 25 (by decide)) rfl rfl rfl (by omega)
    have hLo := And.intro (hLo.1.to (hrr9 24 (by decide))) (hLo.2.to (hrr9 25 (by decide)))
    have hSq : nSq (R 27) v79.toInt.toNat := (hSq.push hx75 (by decide)).to rfl (by omega)
    refine lv_aload_n hx hb dX13_readPlain_17 rfl (lv_at hl 0 rfl) ?_
    refine mz_Vv (As := []) (rest := []) ⟨hx, hb, hml, hown, hts⟩ hK hM hS (k_X13_next l D cy ld ad am hD _ _ _ _ gt gp hIF hIG hIR hg_1 hg_3 (by omega)) ⟨callB_of 0 hts (wl_in mw_685) rfl rfl rfl (htl _ mw_5) (htl _ mw_682) hd_yX13_next ⟨(Nat.le_of_ble_eq_true rfl), (Nat.le_of_ble_eq_true rfl)⟩, htl _ mw_683, htl _ mw_684⟩ rfl hl.1 rfl (Nat.le_of_ble_eq_true rfl) dX13_readPlain_18 ⟨(Nat.le_of_ble_eq_true rfl), (Nat.le_of_ble_eq_true rfl)⟩ (fun H locs F G R S hpo hM hS => ?_)
    obtain ⟨hIF, hIG, hIR, hfr9, hrr9, hgr9, hpo80, hpo81, hpo82, hpo83, hpo84⟩ := hpo
    have hFF := mz_fr (K := [14, 15, 16, 18, 19, 23, 26, 29, 30]) (Fa := Fa) hfr9 hFF (by decide)
    have hRR := mz_fr (K := [24, 25, 27, 28]) (Fa := Ra) hrr9 hRR (by decide)
    have hGG := mz_fr (K := [17]) (Fa := Ga) hgr9 hGG (by decide)
    have hg_3 := (hfr9 13 (by decide)).trans hg_3
    have hg_5 := (hfr9 19 (by decide)).trans hg_5
    have hg_6 := (hfr9 23 (by decide)).trans hg_6
    have hf78 := (hfr9 29 (by decide)).trans hf78
    obtain ⟨v87, hf86⟩ : ∃ z : Int32, F 14 = z := ⟨_, rfl⟩
    have hq_v87 := tk_rng v87
    rw [hf86] at hpo80 hpo81 hpo83 hpo84
    have hr_v87 : 0 ≤ v87.toInt ∧ v87.toInt ≤ 400 := hIF.at hf86
    obtain ⟨v89, hf88⟩ : ∃ z : Int32, F 15 = z := ⟨_, rfl⟩
    have hq_v89 := tk_rng v89
    rw [hf88] at hpo81 hpo82 hpo83 hpo84
    have hr_v89 : 0 ≤ v89.toInt ∧ v89.toInt ≤ 400 := hIF.at hf88
    obtain ⟨v91, hf90⟩ : ∃ z : Int32, F 16 = z := ⟨_, rfl⟩
    have hq_v91 := tk_rng v91
    rw [hf90] at hpo83 hpo84
    have hr_v91 : 0 ≤ v91.toInt ∧ v91.toInt ≤ 3 := hIF.at hf90
    obtain ⟨w93, hf92⟩ : ∃ z : Int64, G 17 = z := ⟨_, rfl⟩
    have hq_w93 := tk_rngL w93
    rw [hf92] at hpo84
    have hPI := hPI.to (hrr9 24 (by decide)) (hrr9 25 (by decide)) (hrr9 27 (by decide)) (hrr9 28 (by decide)) rfl rfl
    have hLo := And.intro (hLo.1.to (hrr9 24 (by decide))) (hLo.2.to (hrr9 25 (by decide)))
    have hSq := hSq.to (hrr9 27 (by decide)) (Nat.le_refl _)
    refine lv_iconst (v := 0) hx hb dX13_readPlain_21 (by decide) ?_
    have hk_0 : (0 : Int32).toInt = 0 := by decide
    exact mz_iret (v := 0) hx hb hr rfl hlocks ⟨hIF, hIG, hIR, hFF, hRR, hGG, (by rw [hf86, hf88]; omega), (by rw [hf88]; omega), (by rw [hf86, hf88, hf90]; omega), (by rw [hf86, hf88, hf90, hf92]; omega), (by rw [hf86]; omega), (by rw [hf86, hg_6, hf78]; omega), (by rw [hg_6]; omega), (by rw [hf86, hg_5]; omega), (by omega), (by omega), (fun _ => ⟨PT.mk hPI (by decide) (fun _ => hSq) (fun h9 => absurd h9 (by decide)) rfl rfl rfl rfl (by rw [hg_6]) (by rw [hf78]), hLo⟩)⟩ hM hS dX13_readPlain_22
end
