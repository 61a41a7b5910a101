set_option maxHeartbeats 4000000 in
set_option maxRecDepth 100000 in
theorem k_X13_endText_x (l : Launch) (D : va_G) (cy : Nat → ClassId) (ld ad : Nat → Nat) (am : Nat) (hD : mz_D ad am) (Fa : Nat → Int32) (Ga : Nat → Int64) (Ra : Nat → Nat → Int32) (Sa : Nat → Nat → Int64) (gf : Int32) (gt : Int32) (gs : Int32) (gp : Int32) (gw : Int64) (gb : Int32) (hIF : mz_IF false Fa) (hIG : mz_IG Ga) (hIR : mz_IR [] true Ra) (hg_0 : Fa 14 = gf) (hg_1 : Fa 15 = gt) (hg_2 : Fa 16 = gs) (hg_3 : Fa 13 = gp) (hg_4 : Ga 17 = gw) (hg_5 : Fa 19 = gb) (hp_0 : 0 ≤ (-1) * gf.toInt + gt.toInt) (hp_1 : 0 ≤ gp.toInt + (-1) * gt.toInt) (hp_2 : (1 ≤ gs.toInt → 0 ≤ (-1) * gf.toInt + gt.toInt + (-1))) (hp_3 : (27 ≤ gw.toInt → 1 ≤ gs.toInt → gs.toInt ≤ 1 → 0 ≤ (-1) * gf.toInt + gt.toInt + (-2))) : Met l yX13_endText (wl yX13_endText cX13_endText 1 none) ({ frames := 6, cells := 0, slots := 0, locals := 350 }) (mz_p D cy ld ad am Fa Ga Ra Sa [.ref am]) (mz_w D cy ad am (fun F G R S => mz_IF true F ∧ mz_IG G ∧ mz_IR [] true R ∧ (∀ k : Nat, k ∉ ([13, 14, 15, 16, 18, 19, 20] : List Nat) → F k = Fa k) ∧ (∀ k : Nat, k ∉ ([] : List Nat) → R k = Ra k) ∧ (∀ k : Nat, k ∉ ([17] : List Nat) → G k = Ga k) ∧ 0 ≤ (-1) * gb.toInt + (F 19).toInt ∧ (F 13).toInt = 0)) 0 0 (mz_W ad am) := by
  refine mz_met (y := yX13_endText) (cc := cX13_endText) (maxL := 1) (ret := none) (av := [.ref am]) _ (by decide) (Nat.le_of_ble_eq_true rfl) ?_
  intro p e s m args below meth c hx hb hr hml hts htl hown hlocks hK H locs hM hS ls hl
  have hown : s.vm.findClass RX13 = some m.cls := hown
  have hl : lv_has ls 1 [(0, .ref am)] := hl
  have hq_gf := tk_rng gf
  have hq_gt := tk_rng gt
  have hq_gs := tk_rng gs
  have hq_gp := tk_rng gp
  have hq_gw := tk_rngL gw
  have hq_gb := tk_rng gb
  have hr_gf : 0 ≤ gf.toInt ∧ gf.toInt ≤ 400 := hIF.at hg_0
  have hr_gt : 0 ≤ gt.toInt ∧ gt.toInt ≤ 400 := hIF.at hg_1
  have hr_gs : 0 ≤ gs.toInt ∧ gs.toInt ≤ 3 := hIF.at hg_2
  have hr_gp : 0 ≤ gp.toInt ∧ gp.toInt ≤ 400 := hIF.at hg_3
  have hr_gb : 0 ≤ gb.toInt ∧ gb.toInt ≤ 1 := hIF.at hg_5
  refine lv_aload_n hx hb dX13_endText_0 rfl (lv_at hl 0 rfl) ?_
  refine mz_getI hx hb htl hown hK hM 19 (Nat.le_of_ble_eq_true rfl) rfl (htl _ mw_668) (fun _ h9 => h9) dX13_endText_1 (fun v9 e9 => ?_)
  refine fx_ti (v := gb) (e9.symm.trans hg_5) ?_
  have hj37 : ∀ (v31 : Int32) (v32 : Int32) (v33 : Int32) (v34 : Int64) (v35 : Int32) (H : Heap) (locs : List Loc) (F : Nat → Int32) (G : Nat → Int64) (R : Nat → Nat → Int32) (S : Nat → Nat → Int64), (0 ≤ v33.toInt) → (v33.toInt ≤ 3) → (v35.toInt ≤ 1) → (0 ≤ (-1) * v31.toInt + v32.toInt) → (0 ≤ (-1) * gf.toInt + v31.toInt) → (0 ≤ gp.toInt + (-1) * v32.toInt) → (0 ≤ (-1) * gb.toInt + v35.toInt) → (mz_S D cy ad am F G R S H) → (va_S (mz_W ad am) s.heap H locs) → (mz_IF false F) → (mz_IG G) → (mz_IR [] true R) → (∀ k : Nat, k ∉ ([13, 14, 15, 16, 18, 19, 20] : List Nat) → F k = Fa k) → (∀ k : Nat, k ∉ ([17] : List Nat) → G k = Ga k) → (∀ k : Nat, k ∉ ([] : List Nat) → R k = Ra k) → (F 14 = v31) → (F 15 = v32) → (F 16 = v33) → (F 13 = gp) → (G 17 = v34) → (F 19 = v35) → ∀ ls : Array Slot, lv_has ls 1 [(0, .ref am)] → W p l e ({ frames := 6, cells := 0, slots := 0, locals := 350 }) s m args below meth c H locs 0 0 (MQ below (mz_w D cy ad am (fun F G R S => mz_IF true F ∧ mz_IG G ∧ mz_IR [] true R ∧ (∀ k : Nat, k ∉ ([13, 14, 15, 16, 18, 19, 20] : List Nat) → F k = Fa k) ∧ (∀ k : Nat, k ∉ ([] : List Nat) → R k = Ra k) ∧ (∀ k : Nat, k ∉ ([17] : List Nat) → G k = Ga k) ∧ 0 ≤ (-1) * gb.toInt + (F 19).toInt ∧ (F 13).toInt = 0)) args s 0 0 (mz_W ad am)) (F0 m 19 ls []) := by
    intro v31 v32 v33 v34 v35 H locs F G R S hq0_j37 hq1_j37 hq2_j37 hq3_j37 hq4_j37 hq5_j37 hq6_j37 hM hS hIF hIG hIR hFF hGG hRR hg_0 hg_1 hg_2 hg_3 hg_4 hg_5 ls hl
    have hq_v31 := tk_rng v31
    have hr_v31 : 0 ≤ v31.toInt ∧ v31.toInt ≤ 400 := hIF.at hg_0
    have hq_v32 := tk_rng v32
    have hr_v32 : 0 ≤ v32.toInt ∧ v32.toInt ≤ 400 := hIF.at hg_1
    have hq_v33 := tk_rng v33
    have hr_v33 : 0 ≤ v33.toInt ∧ v33.toInt ≤ 3 := hIF.at hg_2
    have hq_v34 := tk_rngL v34
    have hq_v35 := tk_rng v35
    have hr_v35 : 0 ≤ v35.toInt ∧ v35.toInt ≤ 1 := hIF.at hg_5
    refine lv_aload_n hx hb dX13_endText_19 rfl (lv_at hl 0 rfl) ?_
    refine lv_iconst (v := 0) hx hb dX13_endText_20 (by decide) ?_
    have hk_0 : (0 : Int32).toInt = 0 := by decide
    have hk_0 : (0 : Int32).toInt = 0 := by decide
    refine mz_putI (ty := .boolean) (x := 0) hx hb htl hown hK hD hM hS 20 (Nat.le_of_ble_eq_true rfl) rfl (htl _ mw_675) (fun _ h9 => h9) rfl (tyX13_ok 20 (by decide)) rfl rfl dX13_endText_21 (fun H locs F hM hS hf9 hj9 => ?_)
    have hIF := hIF.put20 hf9 hj9 (show 0 ≤ (0 : Int32).toInt by omega) (show (0 : Int32).toInt ≤ 1 by omega)
    have hIF := hIF.full hf9 (by decide)
    have hFF := mz_frp (K := [13, 14, 15, 16, 18, 19, 20]) (Fa := Fa) hj9 hFF (by decide)
    have hg_0 := (hj9 14 (by decide)).trans hg_0
    have hg_1 := (hj9 15 (by decide)).trans hg_1
    have hg_2 := (hj9 16 (by decide)).trans hg_2
    have hg_3 := (hj9 13 (by decide)).trans hg_3
    have hg_5 := (hj9 19 (by decide)).trans hg_5
    have hf39 := hf9
    refine lv_aload_n hx hb dX13_endText_24 rfl (lv_at hl 0 rfl) ?_
    refine lv_iconst (v := 0) hx hb dX13_endText_25 (by decide) ?_
    have hk_0 : (0 : Int32).toInt = 0 := by decide
    have hk_0 : (0 : Int32).toInt = 0 := by decide
    refine mz_putI (ty := .int) (x := 0) hx hb htl hown hK hD hM hS 13 (Nat.le_of_ble_eq_true rfl) rfl (htl _ mw_431) (fun _ h9 => h9) rfl (tyX13_ok 13 (by decide)) rfl rfl dX13_endText_26 (fun H locs F hM hS hf9 hj9 => ?_)
    have hIF := hIF.put hf9 hj9 (show 0 ≤ (0 : Int32).toInt by omega) (show (0 : Int32).toInt ≤ 400 by omega) (by decide)
    have hFF := mz_frp (K := [13, 14, 15, 16, 18, 19, 20]) (Fa := Fa) hj9 hFF (by decide)
    have hg_0 := (hj9 14 (by decide)).trans hg_0
    have hg_1 := (hj9 15 (by decide)).trans hg_1
    have hg_2 := (hj9 16 (by decide)).trans hg_2
    have hg_5 := (hj9 19 (by decide)).trans hg_5
    have hf39 := (hj9 20 (by decide)).trans hf39
    have hf41 := hf9
    have hk_0 : (0 : Int32).toInt = 0 := by decide
    exact mz_vret hx hb hr hlocks ⟨hIF, hIG, hIR, hFF, hRR, hGG, (by rw [hg_5]; omega), (by rw [hf41]; omega)⟩ hM hS dX13_endText_29
  refine lv_if_ne (tgt := 19) hx hb dX13_endText_4 (by decide) (fun c9 => ?_) (fun c9 => ?_)
  · have hc1 : ¬ (gb.toInt = 0) := fun h9 => c9 ((fi_eq rfl (show (0 : Int32).toInt = 0 by decide)).mpr h9)
    exact hj37 gf gt gs gw gb _ _ _ _ _ _ (by omega) (by omega) (by omega) (by omega) (by omega) (by omega) (by omega) hM hS hIF hIG hIR (fun _ _ => rfl) (fun _ _ => rfl) (fun _ _ => rfl) hg_0 hg_1 hg_2 hg_3 hg_4 hg_5 _ (lv_sub hl [0] rfl)
  · have hc1 : gb.toInt = 0 := (fi_eq rfl (show (0 : Int32).toInt = 0 by decide)).mp c9
    refine lv_aload_n hx hb dX13_endText_7 rfl (lv_at hl 0 rfl) ?_
    refine mz_getI hx hb htl hown hK hM 16 (Nat.le_of_ble_eq_true rfl) rfl (htl _ mw_688) (fun _ h9 => h9) dX13_endText_8 (fun v9 e9 => ?_)
    refine fx_ti (v := gs) (e9.symm.trans hg_2) ?_
    refine lv_if_eq (tgt := 19) hx hb dX13_endText_11 (by decide) (fun c9 => ?_) (fun c9 => ?_)
    · have hc42 : gs.toInt = 0 := (fi_eq rfl (show (0 : Int32).toInt = 0 by decide)).mp c9
      exact hj37 gf gt gs gw gb _ _ _ _ _ _ (by omega) (by omega) (by omega) (by omega) (by omega) (by omega) (by omega) hM hS hIF hIG hIR (fun _ _ => rfl) (fun _ _ => rfl) (fun _ _ => rfl) hg_0 hg_1 hg_2 hg_3 hg_4 hg_5 _ (lv_sub hl [0] rfl)
    · have hc42 : ¬ (gs.toInt = 0) := fun h9 => c9 ((fi_eq rfl (show (0 : Int32).toInt = 0 by decide)).mpr h9)
      have hwk_43 : 0 ≤ (-1) * gf.toInt + gt.toInt + (-1) := by omega
      refine lv_aload_n hx hb dX13_endText_14 rfl (lv_at hl 0 rfl) ?_
      refine lv_iconst (v := 0) hx hb dX13_endText_15 (by decide) ?_
      have hk_0 : (0 : Int32).toInt = 0 := by decide
      refine mz_Vv (As := [.int 0]) (rest := []) ⟨hx, hb, hml, hown, hts⟩ hK hM hS (k_X13_must l D cy ld ad am hD _ _ _ _ 0 gf gt gs gp gw gb hIF hIG hIR hg_0 hg_1 hg_2 hg_3 hg_4 hg_5 (by omega) (by omega) (by omega) (by omega) (by omega) (by omega)) ⟨callB_of 1 hts (wl_in mw_713) rfl rfl rfl (htl _ mw_5) (htl _ mw_710) hd_yX13_must ⟨(Nat.le_of_ble_eq_true rfl), (Nat.le_of_ble_eq_true rfl)⟩, htl _ mw_711, htl _ mw_712⟩ rfl hl.1 rfl (Nat.le_of_ble_eq_true rfl) dX13_endText_16 ⟨(Nat.le_of_ble_eq_true rfl), (Nat.le_of_ble_eq_true rfl)⟩ (fun H locs F G R S hpo hM hS => ?_)
      obtain ⟨hIF, hIG, hIR, hfr9, hrr9, hgr9, hpo44, hpo45, hpo46, hpo47, hpo48, hpo49, hpo50, hpo51⟩ := hpo
      have hFF := mz_fr (K := [13, 14, 15, 16, 18, 19, 20]) (Fa := Fa) hfr9 (fun _ _ => rfl) (by decide)
      have hRR := mz_fr (K := []) (Fa := Ra) hrr9 (fun _ _ => rfl) (by decide)
      have hGG := mz_fr (K := [17]) (Fa := Ga) hgr9 (fun _ _ => rfl) (by decide)
      have hg_3 := (hfr9 13 (by decide)).trans hg_3
      obtain ⟨v54, hf53⟩ : ∃ z : Int32, F 14 = z := ⟨_, rfl⟩
      have hq_v54 := tk_rng v54
      rw [hf53] at hpo44 hpo46 hpo47 hpo48 hpo50
      have hr_v54 : 0 ≤ v54.toInt ∧ v54.toInt ≤ 400 := hIF.at hf53
      obtain ⟨v56, hf55⟩ : ∃ z : Int32, F 15 = z := ⟨_, rfl⟩
      have hq_v56 := tk_rng v56
      rw [hf55] at hpo44 hpo45 hpo46 hpo47
      have hr_v56 : 0 ≤ v56.toInt ∧ v56.toInt ≤ 400 := hIF.at hf55
      obtain ⟨v58, hf57⟩ : ∃ z : Int32, F 16 = z := ⟨_, rfl⟩
      have hq_v58 := tk_rng v58
      rw [hf57] at hpo46 hpo47
      have hr_v58 : 0 ≤ v58.toInt ∧ v58.toInt ≤ 3 := hIF.at hf57
      obtain ⟨w60, hf59⟩ : ∃ z : Int64, G 17 = z := ⟨_, rfl⟩
      have hq_w60 := tk_rngL w60
      rw [hf59] at hpo47
      obtain ⟨v62, hf61⟩ : ∃ z : Int32, F 19 = z := ⟨_, rfl⟩
      have hq_v62 := tk_rng v62
      rw [hf61] at hpo49 hpo50 hpo51
      have hr_v62 : 0 ≤ v62.toInt ∧ v62.toInt ≤ 1 := hIF.at hf61
      exact hj37 v54 v56 v58 w60 v62 _ _ _ _ _ _ (by omega) (by omega) (by omega) (by omega) (by omega) (by omega) (by omega) hM hS hIF hIG hIR hFF hGG hRR hf53 hf55 hf57 hg_3 hf59 hf61 _ (lv_sub hl [0] rfl)
