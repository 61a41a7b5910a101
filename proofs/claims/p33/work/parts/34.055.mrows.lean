set_option maxHeartbeats 4000000 in
set_option maxRecDepth 100000 in
theorem k_X13_openBracket_31 (l : Launch) (D : va_G) (cy : Nat → ClassId) (ld ad : Nat → Nat) (am : Nat) (hD : mz_D ad am) (Fa : Nat → Int32) (Ga : Nat → Int64) (Ra : Nat → Nat → Int32) (Sa : Nat → Nat → Int64) (gf : Int32) (gt : Int32) (gs : Int32) (gp : Int32) (gw : Int64) (gb : Int32) (gc : Int32) (gd : Int32) (zs : Nat) (hIF : mz_IF false Fa) (hIG : mz_IG Ga) (hIR : mz_IR [] true Ra) (hg_0 : Fa 14 = gf) (hg_1 : Fa 15 = gt) (hg_2 : Fa 16 = gs) (hg_3 : Fa 13 = gp) (hg_4 : Ga 17 = gw) (hg_5 : Fa 19 = gb) (hg_6 : Fa 23 = gc) (hg_7 : Fa 29 = gd) (hp_0 : 0 ≤ (-1) * gf.toInt + gt.toInt) (hp_1 : 0 ≤ gp.toInt + (-1) * gt.toInt) (hp_2 : (1 ≤ gs.toInt → 0 ≤ (-1) * gf.toInt + gt.toInt + (-1))) (hp_3 : (27 ≤ gw.toInt → 1 ≤ gs.toInt → gs.toInt ≤ 1 → 0 ≤ (-1) * gf.toInt + gt.toInt + (-2))) (hp_4 : 0 ≤ (-1) * gc.toInt + (-1) * gd.toInt + gf.toInt) (hp_5 : gb.toInt ≤ 0) (hp_6 : 1 ≤ gs.toInt) (hx_0 : PT (Ra 24) (Ra 25) (Ra 27) (Ra 28) zs gc.toInt.toNat gd.toInt.toNat 0) : Met l yX13_openBracket (wl yX13_openBracket cX13_openBracket 2 none) ({ frames := 6, cells := 0, slots := 0, locals := 350 }) (mz_p D cy ld ad am Fa Ga Ra Sa [.ref am, .int 31]) (mz_w D cy ad am (fun F G R S => mz_IF false F ∧ mz_IG G ∧ mz_IR [] true R ∧ (∀ k : Nat, k ∉ ([14, 15, 16, 18, 19, 29, 30] : List Nat) → F k = Fa k) ∧ (∀ k : Nat, k ∉ ([27, 28] : List Nat) → R k = Ra k) ∧ (∀ k : Nat, k ∉ ([17] : List Nat) → G k = Ga k) ∧ 0 ≤ (-1) * (F 14).toInt + (F 15).toInt ∧ 0 ≤ gp.toInt + (-1) * (F 15).toInt ∧ (1 ≤ (F 16).toInt → 0 ≤ (-1) * (F 14).toInt + (F 15).toInt + (-1)) ∧ (27 ≤ (G 17).toInt → 1 ≤ (F 16).toInt → (F 16).toInt ≤ 1 → 0 ≤ (-1) * (F 14).toInt + (F 15).toInt + (-2)) ∧ 0 ≤ (-1) * gf.toInt + (F 14).toInt ∧ 0 ≤ (-1) * (F 23).toInt + (-1) * (F 29).toInt + (F 14).toInt ∧ 0 ≤ (-1) * gc.toInt + (F 23).toInt ∧ ((F 19).toInt ≤ 0 → 0 ≤ (-1) * gf.toInt + (F 14).toInt + (-1)) ∧ ((F 19).toInt = 0 → PT (R 24) (R 25) (R 27) (R 28) zs (F 23).toInt.toNat (F 29).toInt.toNat 0 ∧ low zs (Ra 24) (R 24) ∧ low zs (Ra 25) (R 25)))) 0 0 (mz_W ad am) := by
  refine mz_met (y := yX13_openBracket) (cc := cX13_openBracket) (maxL := 2) (ret := none) (av := [.ref am, .int 31]) _ (by decide) (Nat.le_of_ble_eq_true rfl) ?_
  intro p e s m args below meth c hx hb hr hml hts htl hown hlocks hK H locs hM hS ls hl
  have hown : s.vm.findClass RX13 = some m.cls := hown
  have hl : lv_has ls 2 [(0, .ref am), (1, .int 31)] := hl
  have hq_gf := tk_rng gf
  have hq_gt := tk_rng gt
  have hq_gs := tk_rng gs
  have hq_gp := tk_rng gp
  have hq_gw := tk_rngL gw
  have hq_gb := tk_rng gb
  have hq_gc := tk_rng gc
  have hq_gd := tk_rng gd
  have hr_gf : 0 ≤ gf.toInt ∧ gf.toInt ≤ 400 := hIF.at hg_0
  have hr_gt : 0 ≤ gt.toInt ∧ gt.toInt ≤ 400 := hIF.at hg_1
  have hr_gs : 0 ≤ gs.toInt ∧ gs.toInt ≤ 3 := hIF.at hg_2
  have hr_gp : 0 ≤ gp.toInt ∧ gp.toInt ≤ 400 := hIF.at hg_3
  have hr_gb : 0 ≤ gb.toInt ∧ gb.toInt ≤ 1 := hIF.at hg_5
  have hr_gc : 0 ≤ gc.toInt ∧ gc.toInt ≤ 400 := hIF.at hg_6
  have hr_gd : 0 ≤ gd.toInt ∧ gd.toInt ≤ 400 := hIF.at hg_7
  have hwk_1 : 0 ≤ (-1) * gf.toInt + gt.toInt + (-1) := by omega
  have hPI : PI (Ra 24) (Ra 25) (Ra 27) (Ra 28) zs gc.toInt.toNat gd.toInt.toNat 0 := hx_0.p (by decide)
  have hLo := And.intro (low.refl zs (Ra 24)) (low.refl zs (Ra 25))
  have hSq : nSq (Ra 27) gd.toInt.toNat := hx_0.2.1 (by decide)
  refine lv_aload_n hx hb dX13_openBracket_0 rfl (lv_at hl 0 rfl) ?_
  refine lv_aload_n hx hb dX13_openBracket_1 rfl (lv_at hl 0 rfl) ?_
  refine mz_getI hx hb htl hown hK hM 30 (Nat.le_of_ble_eq_true rfl) rfl (htl _ mw_719) (fun _ h9 => h9) dX13_openBracket_2 (fun v3 hf2 => ?_)
  have hq_v3 := tk_rng v3
  refine lv_bipush (v := 8) hx hb dX13_openBracket_5 (by decide) ?_
  refine lv_icmp_ge (tgt := 14) hx hb dX13_openBracket_7 (by decide) (fun c9 => ?_) (fun c9 => ?_)
  · have hc4 : 8 ≤ v3.toInt := (fi_le (show (8 : Int32).toInt = 8 by decide) rfl).mp c9
    refine lv_iconst (v := 0) hx hb dX13_openBracket_14 (by decide) ?_
    have hk_0 : (0 : Int32).toInt = 0 := by decide
    refine mz_Vv (As := [.int 0]) (rest := []) ⟨hx, hb, hml, hown, hts⟩ hK hM hS (k_X13_must l D cy ld ad am hD _ _ _ _ 0 gf gt gs gp gw gb hIF hIG hIR hg_0 hg_1 hg_2 hg_3 hg_4 hg_5 (by omega) (by omega) (by omega) (by omega) (by omega) (by omega)) ⟨callB_of 1 hts (wl_in mw_713) rfl rfl rfl (htl _ mw_5) (htl _ mw_710) hd_yX13_must ⟨(Nat.le_of_ble_eq_true rfl), (Nat.le_of_ble_eq_true rfl)⟩, htl _ mw_711, htl _ mw_712⟩ rfl hl.1 rfl (Nat.le_of_ble_eq_true rfl) dX13_openBracket_15 ⟨(Nat.le_of_ble_eq_true rfl), (Nat.le_of_ble_eq_true rfl)⟩ (fun H locs F G R S hpo hM hS => ?_)
    obtain ⟨hIF, hIG, hIR, hfr9, hrr9, hgr9, hpo5, hpo6, hpo10, hpo11, hpo12, hpo13, hpo14, hpo15⟩ := hpo
    have hFF := mz_fr (K := [14, 15, 16, 18, 19, 29, 30]) (Fa := Fa) hfr9 (fun _ _ => rfl) (by decide)
    have hRR := mz_fr (K := [27, 28]) (Fa := Ra) hrr9 (fun _ _ => rfl) (by decide)
    have hGG := mz_fr (K := [17]) (Fa := Ga) hgr9 (fun _ _ => rfl) (by decide)
    have hg_3 := (hfr9 13 (by decide)).trans hg_3
    have hg_6 := (hfr9 23 (by decide)).trans hg_6
    have hg_7 := (hfr9 29 (by decide)).trans hg_7
    have hf2 := (hfr9 30 (by decide)).trans hf2
    obtain ⟨v18, hf17⟩ : ∃ z : Int32, F 14 = z := ⟨_, rfl⟩
    have hq_v18 := tk_rng v18
    rw [hf17] at hpo5 hpo10 hpo11 hpo12 hpo14
    have hr_v18 : 0 ≤ v18.toInt ∧ v18.toInt ≤ 400 := hIF.at hf17
    obtain ⟨v20, hf19⟩ : ∃ z : Int32, F 15 = z := ⟨_, rfl⟩
    have hq_v20 := tk_rng v20
    rw [hf19] at hpo5 hpo6 hpo10 hpo11
    have hr_v20 : 0 ≤ v20.toInt ∧ v20.toInt ≤ 400 := hIF.at hf19
    obtain ⟨v22, hf21⟩ : ∃ z : Int32, F 16 = z := ⟨_, rfl⟩
    have hq_v22 := tk_rng v22
    rw [hf21] at hpo10 hpo11
    have hr_v22 : 0 ≤ v22.toInt ∧ v22.toInt ≤ 3 := hIF.at hf21
    obtain ⟨w24, hf23⟩ : ∃ z : Int64, G 17 = z := ⟨_, rfl⟩
    have hq_w24 := tk_rngL w24
    rw [hf23] at hpo11
    obtain ⟨v26, hf25⟩ : ∃ z : Int32, F 19 = z := ⟨_, rfl⟩
    have hq_v26 := tk_rng v26
    rw [hf25] at hpo13 hpo14 hpo15
    have hr_v26 : 0 ≤ v26.toInt ∧ v26.toInt ≤ 1 := hIF.at hf25
    have hPI := hPI.to (hrr9 24 (by decide)) (hrr9 25 (by decide)) (hrr9 27 (by decide)) (hrr9 28 (by decide)) rfl rfl
    have hLo := And.intro (hLo.1.to (hrr9 24 (by decide))) (hLo.2.to (hrr9 25 (by decide)))
    have hSq := hSq.to (hrr9 27 (by decide)) (Nat.le_refl _)
    refine lv_aload_n hx hb dX13_openBracket_18 rfl (lv_at hl 0 rfl) ?_
    refine mz_getI hx hb htl hown hK hM 19 (Nat.le_of_ble_eq_true rfl) rfl (htl _ mw_668) (fun _ h9 => h9) dX13_openBracket_19 (fun v9 e9 => ?_)
    refine fx_ti (v := v26) (e9.symm.trans hf25) ?_
    refine lv_if_ne (tgt := 41) hx hb dX13_openBracket_22 (by decide) (fun c9 => ?_) (fun c9 => ?_)
    · have hc27 : ¬ (v26.toInt = 0) := fun h9 => c9 ((fi_eq rfl (show (0 : Int32).toInt = 0 by decide)).mpr h9)
      exact mz_vret hx hb hr hlocks ⟨hIF, hIG, hIR, hFF, hRR, hGG, (by rw [hf17, hf19]; omega), (by rw [hf19]; omega), (by rw [hf17, hf19, hf21]; omega), (by rw [hf17, hf19, hf21, hf23]; omega), (by rw [hf17]; omega), (by rw [hf17, hg_6, hg_7]; omega), (by rw [hg_6]; omega), (by rw [hf17, hf25]; omega), (by rw [hf25]; exact fun h9 => absurd h9 (by omega))⟩ hM hS dX13_openBracket_41
    · have hc27 : v26.toInt = 0 := (fi_eq rfl (show (0 : Int32).toInt = 0 by decide)).mp c9
      have hwk_28 : 0 ≤ (-1) * gt.toInt + v18.toInt ∧ 0 ≤ (-1) := by omega
      exfalso
      omega
  · have hc4 : ¬ (8 ≤ v3.toInt) := fun h9 => c9 ((fi_le (show (8 : Int32).toInt = 8 by decide) rfl).mpr h9)
    refine lv_iconst (v := 1) hx hb dX13_openBracket_10 (by decide) ?_
    refine lv_goto (tgt := 15) hx hb dX13_openBracket_11 (by decide) ?_
    have hk_1 : (1 : Int32).toInt = 1 := by decide
    refine mz_Vv (As := [.int 1]) (rest := []) ⟨hx, hb, hml, hown, hts⟩ hK hM hS (k_X13_must l D cy ld ad am hD _ _ _ _ 1 gf gt gs gp gw gb hIF hIG hIR hg_0 hg_1 hg_2 hg_3 hg_4 hg_5 (by omega) (by omega) (by omega) (by omega) (by omega) (by omega)) ⟨callB_of 1 hts (wl_in mw_713) rfl rfl rfl (htl _ mw_5) (htl _ mw_710) hd_yX13_must ⟨(Nat.le_of_ble_eq_true rfl), (Nat.le_of_ble_eq_true rfl)⟩, htl _ mw_711, htl _ mw_712⟩ rfl hl.1 rfl (Nat.le_of_ble_eq_true rfl) dX13_openBracket_15 ⟨(Nat.le_of_ble_eq_true rfl), (Nat.le_of_ble_eq_true rfl)⟩ (fun H locs F G R S hpo hM hS => ?_)
    obtain ⟨hIF, hIG, hIR, hfr9, hrr9, hgr9, hpo29, hpo30, hpo31, hpo32, hpo33, hpo34, hpo35, hpo36⟩ := hpo
    have hFF := mz_fr (K := [14, 15, 16, 18, 19, 29, 30]) (Fa := Fa) hfr9 (fun _ _ => rfl) (by decide)
    have hRR := mz_fr (K := [27, 28]) (Fa := Ra) hrr9 (fun _ _ => rfl) (by decide)
    have hGG := mz_fr (K := [17]) (Fa := Ga) hgr9 (fun _ _ => rfl) (by decide)
    have hg_3 := (hfr9 13 (by decide)).trans hg_3
    have hg_6 := (hfr9 23 (by decide)).trans hg_6
    have hg_7 := (hfr9 29 (by decide)).trans hg_7
    have hf2 := (hfr9 30 (by decide)).trans hf2
    obtain ⟨v39, hf38⟩ : ∃ z : Int32, F 14 = z := ⟨_, rfl⟩
    have hq_v39 := tk_rng v39
    rw [hf38] at hpo29 hpo31 hpo32 hpo33 hpo35
    have hr_v39 : 0 ≤ v39.toInt ∧ v39.toInt ≤ 400 := hIF.at hf38
    obtain ⟨v41, hf40⟩ : ∃ z : Int32, F 15 = z := ⟨_, rfl⟩
    have hq_v41 := tk_rng v41
    rw [hf40] at hpo29 hpo30 hpo31 hpo32
    have hr_v41 : 0 ≤ v41.toInt ∧ v41.toInt ≤ 400 := hIF.at hf40
    obtain ⟨v43, hf42⟩ : ∃ z : Int32, F 16 = z := ⟨_, rfl⟩
    have hq_v43 := tk_rng v43
    rw [hf42] at hpo31 hpo32
    have hr_v43 : 0 ≤ v43.toInt ∧ v43.toInt ≤ 3 := hIF.at hf42
    obtain ⟨w45, hf44⟩ : ∃ z : Int64, G 17 = z := ⟨_, rfl⟩
    have hq_w45 := tk_rngL w45
    rw [hf44] at hpo32
    obtain ⟨v47, hf46⟩ : ∃ z : Int32, F 19 = z := ⟨_, rfl⟩
    have hq_v47 := tk_rng v47
    rw [hf46] at hpo34 hpo35 hpo36
    have hr_v47 : 0 ≤ v47.toInt ∧ v47.toInt ≤ 1 := hIF.at hf46
    have hwk_48 : v47.toInt ≤ 0 := by omega
    have hwk_49 : 0 ≤ (-1) * gt.toInt + v39.toInt := by omega
    have hPI := hPI.to (hrr9 24 (by decide)) (hrr9 25 (by decide)) (hrr9 27 (by decide)) (hrr9 28 (by decide)) rfl rfl
    have hLo := And.intro (hLo.1.to (hrr9 24 (by decide))) (hLo.2.to (hrr9 25 (by decide)))
    have hSq := hSq.to (hrr9 27 (by decide)) (Nat.le_refl _)
    refine lv_aload_n hx hb dX13_openBracket_18 rfl (lv_at hl 0 rfl) ?_
    refine mz_getI hx hb htl hown hK hM 19 (Nat.le_of_ble_eq_true rfl) rfl (htl _ mw_668) (fun _ h9 => h9) dX13_openBracket_19 (fun v9 e9 => ?_)
    refine fx_ti (v := v47) (e9.symm.trans hf46) ?_
    refine lv_if_ne (tgt := 41) hx hb dX13_openBracket_22 (by decide) (fun c9 => absurd ((fi_eq rfl (show (0 : Int32).toInt = 0 by decide)).mpr (show v47.toInt = 0 by omega)) c9) (fun _ => ?_)
    refine lv_aload_n hx hb dX13_openBracket_25 rfl (lv_at hl 0 rfl) ?_
    refine lv_dup hx hb dX13_openBracket_26 rfl ?_
    refine mz_getI hx hb htl hown hK hM 30 (Nat.le_of_ble_eq_true rfl) rfl (htl _ mw_719) (fun _ h9 => h9) dX13_openBracket_27 (fun v9 e9 => ?_)
    refine fx_ti (v := v3) (e9.symm.trans hf2) ?_
    refine lv_iconst (v := 1) hx hb dX13_openBracket_30 (by decide) ?_
    refine lv_iadd hx hb dX13_openBracket_31 ?_
    refine tk_add rfl (show (1 : Int32).toInt = 1 by decide) (by omega) (by omega) (fun v50 h_v50 => ?_)
    refine mz_putI (ty := .int) (x := v50) hx hb htl hown hK hD hM hS 30 (Nat.le_of_ble_eq_true rfl) rfl (htl _ mw_719) (fun _ h9 => h9) rfl (tyX13_ok 30 (by decide)) rfl rfl dX13_openBracket_32 (fun H locs F hM hS hf9 hj9 => ?_)
    have hIF := hIF.put hf9 hj9 (tk_rng _).1 (tk_rng _).2 (by decide)
    have hFF := mz_frp (K := [14, 15, 16, 18, 19, 29, 30]) (Fa := Fa) hj9 hFF (by decide)
    have hg_3 := (hj9 13 (by decide)).trans hg_3
    have hg_6 := (hj9 23 (by decide)).trans hg_6
    have hg_7 := (hj9 29 (by decide)).trans hg_7
    have hf38 := (hj9 14 (by decide)).trans hf38
    have hf40 := (hj9 15 (by decide)).trans hf40
    have hf42 := (hj9 16 (by decide)).trans hf42
    have hf46 := (hj9 19 (by decide)).trans hf46
    have hf52 := hf9
    refine lv_aload_n hx hb dX13_openBracket_35 rfl (lv_at hl 0 rfl) ?_
    refine lv_iload_n hx hb dX13_openBracket_36 rfl (lv_at hl 1 rfl) ?_
    refine lv_iconst (v := 0) hx hb dX13_openBracket_37 (by decide) ?_
    have hk_31 : (31 : Int32).toInt = 31 := by decide
    have hk_0 : (0 : Int32).toInt = 0 := by decide
    refine mz_Vv (As := [.int 31, .int 0]) (rest := []) ⟨hx, hb, hml, hown, hts⟩ hK hM hS (k_X13_push l D cy ld ad am hD _ _ _ _ 31 0 gd hIF hIG hIR hg_7 (by omega) (by omega) (by omega)) ⟨callB_of 2 hts (wl_in mw_728) rfl rfl rfl (htl _ mw_5) (htl _ mw_725) hd_yX13_push ⟨(Nat.le_of_ble_eq_true rfl), (Nat.le_of_ble_eq_true rfl)⟩, htl _ mw_726, htl _ mw_727⟩ rfl hl.1 rfl (Nat.le_of_ble_eq_true rfl) dX13_openBracket_38 ⟨(Nat.le_of_ble_eq_true rfl), (Nat.le_of_ble_eq_true rfl)⟩ (fun H locs F G R S hpo hM hS => ?_)
    obtain ⟨hIF, hIG, hIR, hfr9, hrr9, hgr9, hpo53, hx54, hx55⟩ := hpo
    have hFF := mz_fr (K := [14, 15, 16, 18, 19, 29, 30]) (Fa := Fa) hfr9 hFF (by decide)
    have hRR := mz_fr (K := [27, 28]) (Fa := Ra) hrr9 hRR (by decide)
    have hGG := mz_fr (K := [17]) (Fa := Ga) hgr9 hGG (by decide)
    have hg_3 := (hfr9 13 (by decide)).trans hg_3
    have hg_6 := (hfr9 23 (by decide)).trans hg_6
    have hf38 := (hfr9 14 (by decide)).trans hf38
    have hf40 := (hfr9 15 (by decide)).trans hf40
    have hf42 := (hfr9 16 (by decide)).trans hf42
    have hf44 := (hgr9 17 (by decide)).trans hf44
    have hf46 := (hfr9 19 (by decide)).trans hf46
    have hf52 := (hfr9 30 (by decide)).trans hf52
    obtain ⟨v58, hf57⟩ : ∃ z : Int32, F 29 = z := ⟨_, rfl⟩
    have hq_v58 := tk_rng v58
    rw [hf57] at hpo53
    have hr_v58 : 0 ≤ v58.toInt ∧ v58.toInt ≤ 400 := hIF.at hf57
    have hPI : PI (R 24) (R 25) (R 27) (R 28) zs gc.toInt.toNat v58.toInt.toNat 0 := (PI.push (o := 31) hPI (by decide) (by decide) (by decide) (by decide) (Or.inr (Or.inr hSq)) hx54 hx55).to (hrr9 24 (by decide)) (hrr9 25 (by decide)) rfl rfl rfl (by omega)
    have hLo := And.intro (hLo.1.to (hrr9 24 (by decide))) (hLo.2.to (hrr9 25 (by decide)))
    have hSq : nSq (R 27) v58.toInt.toNat := (hSq.push hx54 (by decide)).to rfl (by omega)
    exact mz_vret hx hb hr hlocks ⟨hIF, hIG, hIR, hFF, hRR, hGG, (by rw [hf38, hf40]; omega), (by rw [hf40]; omega), (by rw [hf38, hf40, hf42]; omega), (by rw [hf38, hf40, hf42, hf44]; omega), (by rw [hf38]; omega), (by rw [hf38, hg_6, hf57]; omega), (by rw [hg_6]; omega), (by rw [hf38, hf46]; omega), (fun _ => ⟨PT.mk hPI (by decide) (fun _ => hSq) (fun h9 => absurd h9 (by decide)) rfl rfl rfl rfl (by rw [hg_6]) (by rw [hf57]), hLo⟩)⟩ hM hS dX13_openBracket_41
