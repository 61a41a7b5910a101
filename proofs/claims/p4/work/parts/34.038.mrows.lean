section
theorem hd_yX13_next : yX13_next.cls ≠ "java/lang/invoke/MethodHandle" ∧ yX13_next.cls ≠ "java/lang/invoke/VarHandle" ∧ (parseMethodDescriptor yX13_next.desc).map (fun d => d.parameters.length) = some 0 := by decide +kernel
theorem dX13_begin1_0 : decode cX13_begin1 0 = .ok (.aload_n 0, 1) := by decide +kernel
theorem dX13_begin1_1 : decode cX13_begin1 1 = .ok (.iconst 0, 1) := by decide +kernel
theorem dX13_begin1_2 : decode cX13_begin1 2 = .ok (.putfield 233, 3) := by decide +kernel
theorem dX13_begin1_5 : decode cX13_begin1 5 = .ok (.aload_n 0, 1) := by decide +kernel
theorem dX13_begin1_6 : decode cX13_begin1 6 = .ok (.iconst 0, 1) := by decide +kernel
theorem dX13_begin1_7 : decode cX13_begin1 7 = .ok (.putfield 236, 3) := by decide +kernel
theorem dX13_begin1_10 : decode cX13_begin1 10 = .ok (.aload_n 0, 1) := by decide +kernel
theorem dX13_begin1_11 : decode cX13_begin1 11 = .ok (.iconst (-1), 1) := by decide +kernel
theorem dX13_begin1_12 : decode cX13_begin1 12 = .ok (.putfield 38, 3) := by decide +kernel
theorem dX13_begin1_15 : decode cX13_begin1 15 = .ok (.aload_n 0, 1) := by decide +kernel
theorem dX13_begin1_16 : decode cX13_begin1 16 = .ok (.invokevirtual 240, 3) := by decide +kernel
theorem dX13_begin1_19 : decode cX13_begin1 19 = .ok (.return_, 1) := by decide +kernel
set_option maxHeartbeats 4000000 in
set_option maxRecDepth 100000 in
theorem k_X13_begin1 (l : Launch) (D : va_G) (cy : Nat → ClassId) (ld ad : Nat → Nat) (am : Nat) (hD : mz_D ad am) (Fa : Nat → Int32) (Ga : Nat → Int64) (Ra : Nat → Nat → Int32) (Sa : Nat → Nat → Int64) (gp : Int32) (hIF : mz_IF false Fa) (hIG : mz_IG Ga) (hIR : mz_IR [] true Ra) (hg_0 : Fa 13 = gp) : Met l yX13_begin1 (wl yX13_begin1 cX13_begin1 1 none) ({ frames := 5, cells := 0, slots := 0, locals := 280 }) (mz_p D cy ld ad am Fa Ga Ra Sa [.ref am]) (mz_w D cy ad am (fun F G R S => mz_IF false F ∧ mz_IG G ∧ mz_IR [] true R ∧ (∀ k : Nat, k ∉ ([14, 15, 16, 18, 19] : List Nat) → F k = Fa k) ∧ (∀ k : Nat, k ∉ ([] : List Nat) → R k = Ra k) ∧ (∀ k : Nat, k ∉ ([17] : List Nat) → G k = Ga k) ∧ 0 ≤ (-1) * (F 14).toInt + (F 15).toInt ∧ 0 ≤ gp.toInt + (-1) * (F 15).toInt ∧ (1 ≤ (F 16).toInt → 0 ≤ (-1) * (F 14).toInt + (F 15).toInt + (-1)) ∧ (27 ≤ (G 17).toInt → 1 ≤ (F 16).toInt → (F 16).toInt ≤ 1 → 0 ≤ (-1) * (F 14).toInt + (F 15).toInt + (-2)) ∧ (F 19).toInt = 0)) 0 0 (mz_W ad am) := by
  refine mz_met (y := yX13_begin1) (cc := cX13_begin1) (maxL := 1) (ret := none) (av := [.ref am]) _ (by decide) (Nat.le_of_ble_eq_true rfl) ?_
  intro p e s m args below meth c hx hb hr hml hts htl hown hlocks hK H locs hM hS ls hl
  have hown : s.vm.findClass RX13 = some m.cls := hown
  have hl : lv_has ls 1 [(0, .ref am)] := hl
  have hq_gp := tk_rng gp
  have hr_gp : 0 ≤ gp.toInt ∧ gp.toInt ≤ 400 := hIF.at hg_0
  refine lv_aload_n hx hb dX13_begin1_0 rfl (lv_at hl 0 rfl) ?_
  refine lv_iconst (v := 0) hx hb dX13_begin1_1 (by decide) ?_
  have hk_0 : (0 : Int32).toInt = 0 := by decide
  have hk_0 : (0 : Int32).toInt = 0 := by decide
  refine mz_putI (ty := .int) (x := 0) hx hb htl hown hK hD hM hS 15 (Nat.le_of_ble_eq_true rfl) rfl (htl _ mw_681) (fun _ h9 => h9) rfl (tyX13_ok 15 (by decide)) rfl rfl dX13_begin1_2 (fun H locs F hM hS hf9 hj9 => ?_)
  have hIF := hIF.put hf9 hj9 (show 0 ≤ (0 : Int32).toInt by omega) (show (0 : Int32).toInt ≤ 400 by omega) (by decide)
  have hFF := mz_frp (K := [14, 15, 16, 18, 19]) (Fa := Fa) hj9 (fun _ _ => rfl) (by decide)
  have hg_0 := (hj9 13 (by decide)).trans hg_0
  have hf2 := hf9
  refine lv_aload_n hx hb dX13_begin1_5 rfl (lv_at hl 0 rfl) ?_
  refine lv_iconst (v := 0) hx hb dX13_begin1_6 (by decide) ?_
  have hk_0 : (0 : Int32).toInt = 0 := by decide
  have hk_0 : (0 : Int32).toInt = 0 := by decide
  refine mz_putI (ty := .boolean) (x := 0) hx hb htl hown hK hD hM hS 19 (Nat.le_of_ble_eq_true rfl) rfl (htl _ mw_668) (fun _ h9 => h9) rfl (tyX13_ok 19 (by decide)) rfl rfl dX13_begin1_7 (fun H locs F hM hS hf9 hj9 => ?_)
  have hIF := hIF.put hf9 hj9 (show 0 ≤ (0 : Int32).toInt by omega) (show (0 : Int32).toInt ≤ 1 by omega) (by decide)
  have hFF := mz_frp (K := [14, 15, 16, 18, 19]) (Fa := Fa) hj9 hFF (by decide)
  have hg_0 := (hj9 13 (by decide)).trans hg_0
  have hf2 := (hj9 15 (by decide)).trans hf2
  have hf4 := hf9
  refine lv_aload_n hx hb dX13_begin1_10 rfl (lv_at hl 0 rfl) ?_
  refine lv_iconst (v := (-1)) hx hb dX13_begin1_11 (by decide) ?_
  have hk_m1 : ((-1) : Int32).toInt = (-1) := by decide
  refine mz_putI (ty := .int) (x := (-1)) hx hb htl hown hK hD hM hS 18 (Nat.le_of_ble_eq_true rfl) rfl (htl _ mw_196) (fun _ h9 => h9) rfl (tyX13_ok 18 (by decide)) rfl rfl dX13_begin1_12 (fun H locs F hM hS hf9 hj9 => ?_)
  have hIF := hIF.put hf9 hj9 (tk_rng _).1 (tk_rng _).2 (by decide)
  have hFF := mz_frp (K := [14, 15, 16, 18, 19]) (Fa := Fa) hj9 hFF (by decide)
  have hg_0 := (hj9 13 (by decide)).trans hg_0
  have hf2 := (hj9 15 (by decide)).trans hf2
  have hf4 := (hj9 19 (by decide)).trans hf4
  have hf6 := hf9
  refine lv_aload_n hx hb dX13_begin1_15 rfl (lv_at hl 0 rfl) ?_
  have hk_0 : (0 : Int32).toInt = 0 := by decide
  refine mz_Vv (As := []) (rest := []) ⟨hx, hb, hml, hown, hts⟩ hK hM hS (k_X13_next l D cy ld ad am hD _ _ _ _ 0 gp hIF hIG hIR hf2 hg_0 (by omega)) ⟨callB_of 0 hts (wl_in mw_685) rfl rfl rfl (htl _ mw_5) (htl _ mw_682) hd_yX13_next ⟨(Nat.le_of_ble_eq_true rfl), (Nat.le_of_ble_eq_true rfl)⟩, htl _ mw_683, htl _ mw_684⟩ rfl hl.1 rfl (Nat.le_of_ble_eq_true rfl) dX13_begin1_16 ⟨(Nat.le_of_ble_eq_true rfl), (Nat.le_of_ble_eq_true rfl)⟩ (fun H locs F G R S hpo hM hS => ?_)
  obtain ⟨hIF, hIG, hIR, hfr9, hrr9, hgr9, hpo10, hpo11, hpo12, hpo13, hpo14⟩ := hpo
  have hFF := mz_fr (K := [14, 15, 16, 18, 19]) (Fa := Fa) hfr9 hFF (by decide)
  have hRR := mz_fr (K := []) (Fa := Ra) hrr9 (fun _ _ => rfl) (by decide)
  have hGG := mz_fr (K := [17]) (Fa := Ga) hgr9 (fun _ _ => rfl) (by decide)
  have hg_0 := (hfr9 13 (by decide)).trans hg_0
  have hf4 := (hfr9 19 (by decide)).trans hf4
  have hf6 := (hfr9 18 (by decide)).trans hf6
  obtain ⟨v17, hf16⟩ : ∃ z : Int32, F 14 = z := ⟨_, rfl⟩
  have hq_v17 := tk_rng v17
  rw [hf16] at hpo10 hpo11 hpo13 hpo14
  have hr_v17 : 0 ≤ v17.toInt ∧ v17.toInt ≤ 400 := hIF.at hf16
  obtain ⟨v19, hf18⟩ : ∃ z : Int32, F 15 = z := ⟨_, rfl⟩
  have hq_v19 := tk_rng v19
  rw [hf18] at hpo11 hpo12 hpo13 hpo14
  have hr_v19 : 0 ≤ v19.toInt ∧ v19.toInt ≤ 400 := hIF.at hf18
  obtain ⟨v21, hf20⟩ : ∃ z : Int32, F 16 = z := ⟨_, rfl⟩
  have hq_v21 := tk_rng v21
  rw [hf20] at hpo13 hpo14
  have hr_v21 : 0 ≤ v21.toInt ∧ v21.toInt ≤ 3 := hIF.at hf20
  obtain ⟨w23, hf22⟩ : ∃ z : Int64, G 17 = z := ⟨_, rfl⟩
  have hq_w23 := tk_rngL w23
  rw [hf22] at hpo14
  have hk_0 : (0 : Int32).toInt = 0 := by decide
  exact mz_vret hx hb hr hlocks ⟨hIF, hIG, hIR, hFF, hRR, hGG, (by rw [hf16, hf18]; omega), (by rw [hf18]; omega), (by rw [hf16, hf18, hf20]; omega), (by rw [hf16, hf18, hf20, hf22]; omega), (by rw [hf4]; omega)⟩ hM hS dX13_begin1_19
end
section
theorem dX13_isWord_0 : decode cX13_isWord 0 = .ok (.aload_n 0, 1) := by decide +kernel
theorem dX13_isWord_1 : decode cX13_isWord 1 = .ok (.getfield 256, 3) := by decide +kernel
theorem dX13_isWord_4 : decode cX13_isWord 4 = .ok (.iconst 1, 1) := by decide +kernel
theorem dX13_isWord_5 : decode cX13_isWord 5 = .ok (.if_icmp .ne 16, 3) := by decide +kernel
theorem dX13_isWord_21 : decode cX13_isWord 21 = .ok (.iconst 0, 1) := by decide +kernel
theorem dX13_isWord_22 : decode cX13_isWord 22 = .ok (.ireturn, 1) := by decide +kernel
theorem dX13_isWord_8 : decode cX13_isWord 8 = .ok (.aload_n 0, 1) := by decide +kernel
theorem dX13_isWord_9 : decode cX13_isWord 9 = .ok (.getfield 246, 3) := by decide +kernel
theorem dX13_isWord_12 : decode cX13_isWord 12 = .ok (.lload_n 1, 1) := by decide +kernel
theorem dX13_isWord_13 : decode cX13_isWord 13 = .ok (.lcmp, 1) := by decide +kernel
theorem dX13_isWord_14 : decode cX13_isWord 14 = .ok (.ifCond .ne 7, 3) := by decide +kernel
theorem dX13_isWord_17 : decode cX13_isWord 17 = .ok (.iconst 1, 1) := by decide +kernel
theorem dX13_isWord_18 : decode cX13_isWord 18 = .ok (.goto 4, 3) := by decide +kernel
set_option maxHeartbeats 4000000 in
set_option maxRecDepth 100000 in
theorem k_X13_isWord (l : Launch) (D : va_G) (cy : Nat → ClassId) (ld ad : Nat → Nat) (am : Nat) (hD : mz_D ad am) (Fa : Nat → Int32) (Ga : Nat → Int64) (Ra : Nat → Nat → Int32) (Sa : Nat → Nat → Int64) (p1 : Int64) (gs : Int32) (gw : Int64) (hIF : mz_IF false Fa) (hIG : mz_IG Ga) (hIR : mz_IR [] true Ra) (hg_0 : Fa 16 = gs) (hg_1 : Ga 17 = gw) : Met l yX13_isWord (wl yX13_isWord cX13_isWord 3 (some .boolean)) ({ frames := 3, cells := 0, slots := 0, locals := 140 }) (mz_p D cy ld ad am Fa Ga Ra Sa [.ref am, .long p1]) (mz_j D cy ad am Fa Ga Ra Sa (fun r => (1 ≤ r.toInt → gw.toInt + (-1) * p1.toInt = 0 ∧ gs.toInt + (-1) = 0) ∧ 0 ≤ r.toInt ∧ r.toInt ≤ 1 ∧ 0 ≤ r.toInt ∧ r.toInt ≤ 1)) 0 0 (mz_W ad am) := by
  refine mz_met (y := yX13_isWord) (cc := cX13_isWord) (maxL := 3) (ret := (some .boolean)) (av := [.ref am, .long p1]) _ (by decide) (Nat.le_of_ble_eq_true rfl) ?_
  intro p e s m args below meth c hx hb hr hml hts htl hown hlocks hK H locs hM hS ls hl
  have hown : s.vm.findClass RX13 = some m.cls := hown
  have hl : lv_has ls 3 [(0, .ref am), (1, .long p1)] := hl
  have hq_gs := tk_rng gs
  have hq_gw := tk_rngL gw
  have hr_gs : 0 ≤ gs.toInt ∧ gs.toInt ≤ 3 := hIF.at hg_0
  refine lv_aload_n hx hb dX13_isWord_0 rfl (lv_at hl 0 rfl) ?_
  refine mz_getI hx hb htl hown hK hM 16 (Nat.le_of_ble_eq_true rfl) rfl (htl _ mw_688) (fun _ h9 => h9) dX13_isWord_1 (fun v9 e9 => ?_)
  refine fx_ti (v := gs) (e9.symm.trans hg_0) ?_
  refine lv_iconst (v := 1) hx hb dX13_isWord_4 (by decide) ?_
  refine lv_icmp_ne (tgt := 21) hx hb dX13_isWord_5 (by decide) (fun c9 => ?_) (fun c9 => ?_)
  · have hc1 : ¬ (gs.toInt = 1) := fun h9 => c9 ((fi_eq rfl (show (1 : Int32).toInt = 1 by decide)).mpr h9)
    refine lv_iconst (v := 0) hx hb dX13_isWord_21 (by decide) ?_
    have hk_0 : (0 : Int32).toInt = 0 := by decide
    exact mz_jret (v := 0) hx hb hr rfl hlocks ⟨(by omega), (by omega), (by omega), (by omega), (by omega)⟩ hM hS dX13_isWord_22
  · have hc1 : gs.toInt = 1 := (fi_eq rfl (show (1 : Int32).toInt = 1 by decide)).mp c9
    refine lv_aload_n hx hb dX13_isWord_8 rfl (lv_at hl 0 rfl) ?_
    refine mz_getJ hx hb htl hown hK hM 17 (Nat.le_of_ble_eq_true rfl) rfl (htl _ mw_687) (fun _ h9 => h9) dX13_isWord_9 (fun v9 e9 => ?_)
    refine fx_tl (v := gw) (e9.symm.trans hg_1) ?_
    refine lv_lload_n hx hb dX13_isWord_12 rfl (lv_at hl 1 rfl) ?_
    refine W.lcmp hx hb dX13_isWord_13 ?_
    refine lv_if_ne (tgt := 21) hx hb dX13_isWord_14 (by decide) (fun c9 => ?_) (fun c9 => ?_)
    · have hc2 : ¬ (gw.toInt = p1.toInt) := fun h9 => c9 (((lg_cmp_eq _ _).trans (fl_eq rfl rfl)).mpr h9)
      refine lv_iconst (v := 0) hx hb dX13_isWord_21 (by decide) ?_
      have hk_0 : (0 : Int32).toInt = 0 := by decide
      exact mz_jret (v := 0) hx hb hr rfl hlocks ⟨(by omega), (by omega), (by omega), (by omega), (by omega)⟩ hM hS dX13_isWord_22
    · have hc2 : gw.toInt = p1.toInt := ((lg_cmp_eq _ _).trans (fl_eq rfl rfl)).mp c9
      refine lv_iconst (v := 1) hx hb dX13_isWord_17 (by decide) ?_
      refine lv_goto (tgt := 22) hx hb dX13_isWord_18 (by decide) ?_
      have hk_1 : (1 : Int32).toInt = 1 := by decide
      exact mz_jret (v := 1) hx hb hr rfl hlocks ⟨(by omega), (by omega), (by omega), (by omega), (by omega)⟩ hM hS dX13_isWord_22
end
section
theorem dX13_isSign_0 : decode cX13_isSign 0 = .ok (.aload_n 0, 1) := by decide +kernel
theorem dX13_isSign_1 : decode cX13_isSign 1 = .ok (.getfield 256, 3) := by decide +kernel
theorem dX13_isSign_4 : decode cX13_isSign 4 = .ok (.iconst 3, 1) := by decide +kernel
theorem dX13_isSign_5 : decode cX13_isSign 5 = .ok (.if_icmp .ne 17, 3) := by decide +kernel
theorem dX13_isSign_22 : decode cX13_isSign 22 = .ok (.iconst 0, 1) := by decide +kernel
theorem dX13_isSign_23 : decode cX13_isSign 23 = .ok (.ireturn, 1) := by decide +kernel
theorem dX13_isSign_8 : decode cX13_isSign 8 = .ok (.aload_n 0, 1) := by decide +kernel
theorem dX13_isSign_9 : decode cX13_isSign 9 = .ok (.getfield 246, 3) := by decide +kernel
theorem dX13_isSign_12 : decode cX13_isSign 12 = .ok (.iload_n 1, 1) := by decide +kernel
theorem dX13_isSign_13 : decode cX13_isSign 13 = .ok (.i2l, 1) := by decide +kernel
theorem dX13_isSign_14 : decode cX13_isSign 14 = .ok (.lcmp, 1) := by decide +kernel
theorem dX13_isSign_15 : decode cX13_isSign 15 = .ok (.ifCond .ne 7, 3) := by decide +kernel
theorem dX13_isSign_18 : decode cX13_isSign 18 = .ok (.iconst 1, 1) := by decide +kernel
theorem dX13_isSign_19 : decode cX13_isSign 19 = .ok (.goto 4, 3) := by decide +kernel
set_option maxHeartbeats 4000000 in
set_option maxRecDepth 100000 in
theorem k_X13_isSign (l : Launch) (D : va_G) (cy : Nat → ClassId) (ld ad : Nat → Nat) (am : Nat) (hD : mz_D ad am) (Fa : Nat → Int32) (Ga : Nat → Int64) (Ra : Nat → Nat → Int32) (Sa : Nat → Nat → Int64) (p1 : Int32) (gs : Int32) (hIF : mz_IF false Fa) (hIG : mz_IG Ga) (hIR : mz_IR [] true Ra) (hg_0 : Fa 16 = gs) : Met l yX13_isSign (wl yX13_isSign cX13_isSign 2 (some .boolean)) ({ frames := 3, cells := 0, slots := 0, locals := 140 }) (mz_p D cy ld ad am Fa Ga Ra Sa [.ref am, .int p1]) (mz_j D cy ad am Fa Ga Ra Sa (fun r => (1 ≤ r.toInt → gs.toInt + (-3) = 0) ∧ 0 ≤ r.toInt ∧ r.toInt ≤ 1 ∧ 0 ≤ r.toInt ∧ r.toInt ≤ 1)) 0 0 (mz_W ad am) := by
  refine mz_met (y := yX13_isSign) (cc := cX13_isSign) (maxL := 2) (ret := (some .boolean)) (av := [.ref am, .int p1]) _ (by decide) (Nat.le_of_ble_eq_true rfl) ?_
  intro p e s m args below meth c hx hb hr hml hts htl hown hlocks hK H locs hM hS ls hl
  have hown : s.vm.findClass RX13 = some m.cls := hown
  have hl : lv_has ls 2 [(0, .ref am), (1, .int p1)] := hl
  have hr_p1 := tk_rng p1
  have hq_gs := tk_rng gs
  have hr_gs : 0 ≤ gs.toInt ∧ gs.toInt ≤ 3 := hIF.at hg_0
  refine lv_aload_n hx hb dX13_isSign_0 rfl (lv_at hl 0 rfl) ?_
  refine mz_getI hx hb htl hown hK hM 16 (Nat.le_of_ble_eq_true rfl) rfl (htl _ mw_688) (fun _ h9 => h9) dX13_isSign_1 (fun v9 e9 => ?_)
  refine fx_ti (v := gs) (e9.symm.trans hg_0) ?_
  refine lv_iconst (v := 3) hx hb dX13_isSign_4 (by decide) ?_
  refine lv_icmp_ne (tgt := 22) hx hb dX13_isSign_5 (by decide) (fun c9 => ?_) (fun c9 => ?_)
  · have hc1 : ¬ (gs.toInt = 3) := fun h9 => c9 ((fi_eq rfl (show (3 : Int32).toInt = 3 by decide)).mpr h9)
    refine lv_iconst (v := 0) hx hb dX13_isSign_22 (by decide) ?_
    have hk_0 : (0 : Int32).toInt = 0 := by decide
    exact mz_jret (v := 0) hx hb hr rfl hlocks ⟨(by omega), (by omega), (by omega), (by omega), (by omega)⟩ hM hS dX13_isSign_23
  · have hc1 : gs.toInt = 3 := (fi_eq rfl (show (3 : Int32).toInt = 3 by decide)).mp c9
    refine lv_aload_n hx hb dX13_isSign_8 rfl (lv_at hl 0 rfl) ?_
    refine mz_getJ hx hb htl hown hK hM 17 (Nat.le_of_ble_eq_true rfl) rfl (htl _ mw_687) (fun _ h9 => h9) dX13_isSign_9 (fun w2 e_w2 => ?_)
    have hr_w2 := tk_rngL w2
    refine lv_iload_n hx hb dX13_isSign_12 rfl (lv_at hl 1 rfl) ?_
    obtain ⟨w3, e_w3, h_w3⟩ : ∃ z : Int64, p1.toInt64 = z ∧ z.toInt = p1.toInt := ⟨_, rfl, fl_w _⟩
    refine lv_i2l (v := w3) hx hb dX13_isSign_13 e_w3 ?_
    refine W.lcmp hx hb dX13_isSign_14 ?_
    refine lv_if_ne (tgt := 22) hx hb dX13_isSign_15 (by decide) (fun c9 => ?_) (fun c9 => ?_)
    · have hc4 : ¬ (w2.toInt = w3.toInt) := fun h9 => c9 (((lg_cmp_eq _ _).trans (fl_eq rfl rfl)).mpr h9)
      refine lv_iconst (v := 0) hx hb dX13_isSign_22 (by decide) ?_
      have hk_0 : (0 : Int32).toInt = 0 := by decide
      exact mz_jret (v := 0) hx hb hr rfl hlocks ⟨(by omega), (by omega), (by omega), (by omega), (by omega)⟩ hM hS dX13_isSign_23
    · have hc4 : w2.toInt = w3.toInt := ((lg_cmp_eq _ _).trans (fl_eq rfl rfl)).mp c9
      refine lv_iconst (v := 1) hx hb dX13_isSign_18 (by decide) ?_
      refine lv_goto (tgt := 23) hx hb dX13_isSign_19 (by decide) ?_
      have hk_1 : (1 : Int32).toInt = 1 := by decide
      exact mz_jret (v := 1) hx hb hr rfl hlocks ⟨(by omega), (by omega), (by omega), (by omega), (by omega)⟩ hM hS dX13_isSign_23
end
section
theorem dX13_must_0 : decode cX13_must 0 = .ok (.aload_n 0, 1) := by decide +kernel
theorem dX13_must_1 : decode cX13_must 1 = .ok (.getfield 236, 3) := by decide +kernel
theorem dX13_must_4 : decode cX13_must 4 = .ok (.ifCond .ne 20, 3) := by decide +kernel
theorem dX13_must_24 : decode cX13_must 24 = .ok (.aload_n 0, 1) := by decide +kernel
theorem dX13_must_25 : decode cX13_must 25 = .ok (.getfield 236, 3) := by decide +kernel
theorem dX13_must_28 : decode cX13_must 28 = .ok (.ifCond .ne 7, 3) := by decide +kernel
theorem dX13_must_35 : decode cX13_must 35 = .ok (.return_, 1) := by decide +kernel
theorem dX13_must_7 : decode cX13_must 7 = .ok (.iload_n 1, 1) := by decide +kernel
theorem dX13_must_8 : decode cX13_must 8 = .ok (.ifCond .ne 16, 3) := by decide +kernel
theorem dX13_must_31 : decode cX13_must 31 = .ok (.aload_n 0, 1) := by decide +kernel
theorem dX13_must_32 : decode cX13_must 32 = .ok (.invokevirtual 240, 3) := by decide +kernel
theorem dX13_must_11 : decode cX13_must 11 = .ok (.aload_n 0, 1) := by decide +kernel
theorem dX13_must_12 : decode cX13_must 12 = .ok (.iconst 1, 1) := by decide +kernel
theorem dX13_must_13 : decode cX13_must 13 = .ok (.putfield 236, 3) := by decide +kernel
theorem dX13_must_16 : decode cX13_must 16 = .ok (.aload_n 0, 1) := by decide +kernel
theorem dX13_must_17 : decode cX13_must 17 = .ok (.aload_n 0, 1) := by decide +kernel
theorem dX13_must_18 : decode cX13_must 18 = .ok (.getfield 243, 3) := by decide +kernel
theorem dX13_must_21 : decode cX13_must 21 = .ok (.putfield 38, 3) := by decide +kernel
set_option maxHeartbeats 4000000 in
set_option maxRecDepth 100000 in
theorem k_X13_must (l : Launch) (D : va_G) (cy : Nat → ClassId) (ld ad : Nat → Nat) (am : Nat) (hD : mz_D ad am) (Fa : Nat → Int32) (Ga : Nat → Int64) (Ra : Nat → Nat → Int32) (Sa : Nat → Nat → Int64) (p1 : Int32) (gf : Int32) (gt : Int32) (gs : Int32) (gp : Int32) (gw : Int64) (gb : Int32) (hIF : mz_IF false Fa) (hIG : mz_IG Ga) (hIR : mz_IR [] true Ra) (hg_0 : Fa 14 = gf) (hg_1 : Fa 15 = gt) (hg_2 : Fa 16 = gs) (hg_3 : Fa 13 = gp) (hg_4 : Ga 17 = gw) (hg_5 : Fa 19 = gb) (hp_0 : 0 ≤ p1.toInt) (hp_1 : p1.toInt ≤ 1) (hp_2 : 0 ≤ (-1) * gf.toInt + gt.toInt) (hp_3 : 0 ≤ gp.toInt + (-1) * gt.toInt) (hp_4 : (1 ≤ gs.toInt → 0 ≤ (-1) * gf.toInt + gt.toInt + (-1))) (hp_5 : (27 ≤ gw.toInt → 1 ≤ gs.toInt → gs.toInt ≤ 1 → 0 ≤ (-1) * gf.toInt + gt.toInt + (-2))) : Met l yX13_must (wl yX13_must cX13_must 2 none) ({ frames := 5, cells := 0, slots := 0, locals := 280 }) (mz_p D cy ld ad am Fa Ga Ra Sa [.ref am, .int p1]) (mz_w D cy ad am (fun F G R S => mz_IF false F ∧ mz_IG G ∧ mz_IR [] true R ∧ (∀ k : Nat, k ∉ ([14, 15, 16, 18, 19] : List Nat) → F k = Fa k) ∧ (∀ k : Nat, k ∉ ([] : List Nat) → R k = Ra k) ∧ (∀ k : Nat, k ∉ ([17] : List Nat) → G k = Ga k) ∧ 0 ≤ (-1) * (F 14).toInt + (F 15).toInt ∧ 0 ≤ gp.toInt + (-1) * (F 15).toInt ∧ (1 ≤ (F 16).toInt → 0 ≤ (-1) * (F 14).toInt + (F 15).toInt + (-1)) ∧ (27 ≤ (G 17).toInt → 1 ≤ (F 16).toInt → (F 16).toInt ≤ 1 → 0 ≤ (-1) * (F 14).toInt + (F 15).toInt + (-2)) ∧ 0 ≤ (-1) * gf.toInt + (F 14).toInt ∧ 0 ≤ (-1) * gb.toInt + (F 19).toInt ∧ ((F 19).toInt ≤ 0 → 0 ≤ (-1) * gt.toInt + (F 14).toInt ∧ 1 ≤ p1.toInt ∧ gb.toInt ≤ 0) ∧ (1 ≤ p1.toInt → gb.toInt ≤ 0 → (F 19).toInt ≤ 0))) 0 0 (mz_W ad am) := by
  refine mz_met (y := yX13_must) (cc := cX13_must) (maxL := 2) (ret := none) (av := [.ref am, .int p1]) _ (by decide) (Nat.le_of_ble_eq_true rfl) ?_
  intro p e s m args below meth c hx hb hr hml hts htl hown hlocks hK H locs hM hS ls hl
  have hown : s.vm.findClass RX13 = some m.cls := hown
  have hl : lv_has ls 2 [(0, .ref am), (1, .int p1)] := hl
  have hr_p1 := tk_rng p1
  have hq_gf := tk_rng gf
  have hq_gt := tk_rng gt
  have hq_gs := tk_rng gs
  have hq_gp := tk_rng gp
  have hq_gw := tk_rngL gw
  have hq_gb := tk_rng gb
  have hr_gf : 0 ≤ gf.toInt ∧ gf.toInt ≤ 400 := hIF.at hg_0
  have hr_gt : 0 ≤ gt.toInt ∧ gt.toInt ≤ 400 := hIF.at hg_1
  have hr_gs : 0 ≤ gs.toInt ∧ gs.toInt ≤ 3 := hIF.at hg_2
  have hr_gp : 0 ≤ gp.toInt ∧ gp.toInt ≤ 400 := hIF.at hg_3
  have hr_gb : 0 ≤ gb.toInt ∧ gb.toInt ≤ 1 := hIF.at hg_5
  refine lv_aload_n hx hb dX13_must_0 rfl (lv_at hl 0 rfl) ?_
  refine mz_getI hx hb htl hown hK hM 19 (Nat.le_of_ble_eq_true rfl) rfl (htl _ mw_668) (fun _ h9 => h9) dX13_must_1 (fun v9 e9 => ?_)
  refine fx_ti (v := gb) (e9.symm.trans hg_5) ?_
  refine lv_if_ne (tgt := 24) hx hb dX13_must_4 (by decide) (fun c9 => ?_) (fun c9 => ?_)
  · have hc1 : ¬ (gb.toInt = 0) := fun h9 => c9 ((fi_eq rfl (show (0 : Int32).toInt = 0 by decide)).mpr h9)
    refine lv_aload_n hx hb dX13_must_24 rfl (lv_at hl 0 rfl) ?_
    refine mz_getI hx hb htl hown hK hM 19 (Nat.le_of_ble_eq_true rfl) rfl (htl _ mw_668) (fun _ h9 => h9) dX13_must_25 (fun v9 e9 => ?_)
    refine fx_ti (v := gb) (e9.symm.trans hg_5) ?_
    refine lv_if_ne (tgt := 35) hx hb dX13_must_28 (by decide) (fun _ => ?_) (fun c9 => absurd (show gb.toInt = 0 from (fi_eq rfl (show (0 : Int32).toInt = 0 by decide)).mp c9) (by omega))
    exact mz_vret hx hb hr hlocks ⟨hIF, hIG, hIR, (fun _ _ => rfl), (fun _ _ => rfl), (fun _ _ => rfl), (by rw [hg_0, hg_1]; omega), (by rw [hg_1]; omega), (by rw [hg_0, hg_1, hg_2]; omega), (by rw [hg_0, hg_1, hg_2, hg_4]; omega), (by rw [hg_0]; omega), (by rw [hg_5]; omega), (by rw [hg_0, hg_5]; omega), (by rw [hg_5]; omega)⟩ hM hS dX13_must_35
  · have hc1 : gb.toInt = 0 := (fi_eq rfl (show (0 : Int32).toInt = 0 by decide)).mp c9
    refine lv_iload_n hx hb dX13_must_7 rfl (lv_at hl 1 rfl) ?_
    refine lv_if_ne (tgt := 24) hx hb dX13_must_8 (by decide) (fun c9 => ?_) (fun c9 => ?_)
    · have hc2 : ¬ (p1.toInt = 0) := fun h9 => c9 ((fi_eq rfl (show (0 : Int32).toInt = 0 by decide)).mpr h9)
      refine lv_aload_n hx hb dX13_must_24 rfl (lv_at hl 0 rfl) ?_
      refine mz_getI hx hb htl hown hK hM 19 (Nat.le_of_ble_eq_true rfl) rfl (htl _ mw_668) (fun _ h9 => h9) dX13_must_25 (fun v9 e9 => ?_)
      refine fx_ti (v := gb) (e9.symm.trans hg_5) ?_
      refine lv_if_ne (tgt := 35) hx hb dX13_must_28 (by decide) (fun c9 => absurd ((fi_eq rfl (show (0 : Int32).toInt = 0 by decide)).mpr (show gb.toInt = 0 by omega)) c9) (fun _ => ?_)
      refine lv_aload_n hx hb dX13_must_31 rfl (lv_at hl 0 rfl) ?_
      refine mz_Vv (As := []) (rest := []) ⟨hx, hb, hml, hown, hts⟩ hK hM hS (k_X13_next l D cy ld ad am hD _ _ _ _ gt gp hIF hIG hIR hg_1 hg_3 (by omega)) ⟨callB_of 0 hts (wl_in mw_685) rfl rfl rfl (htl _ mw_5) (htl _ mw_682) hd_yX13_next ⟨(Nat.le_of_ble_eq_true rfl), (Nat.le_of_ble_eq_true rfl)⟩, htl _ mw_683, htl _ mw_684⟩ rfl hl.1 rfl (Nat.le_of_ble_eq_true rfl) dX13_must_32 ⟨(Nat.le_of_ble_eq_true rfl), (Nat.le_of_ble_eq_true rfl)⟩ (fun H locs F G R S hpo hM hS => ?_)
      obtain ⟨hIF, hIG, hIR, hfr9, hrr9, hgr9, hpo3, hpo4, hpo5, hpo6, hpo10⟩ := hpo
      have hFF := mz_fr (K := [14, 15, 16, 18, 19]) (Fa := Fa) hfr9 (fun _ _ => rfl) (by decide)
      have hRR := mz_fr (K := []) (Fa := Ra) hrr9 (fun _ _ => rfl) (by decide)
      have hGG := mz_fr (K := [17]) (Fa := Ga) hgr9 (fun _ _ => rfl) (by decide)
      have hg_3 := (hfr9 13 (by decide)).trans hg_3
      have hg_5 := (hfr9 19 (by decide)).trans hg_5
      obtain ⟨v13, hf12⟩ : ∃ z : Int32, F 14 = z := ⟨_, rfl⟩
      have hq_v13 := tk_rng v13
      rw [hf12] at hpo3 hpo4 hpo6 hpo10
      have hr_v13 : 0 ≤ v13.toInt ∧ v13.toInt ≤ 400 := hIF.at hf12
      obtain ⟨v15, hf14⟩ : ∃ z : Int32, F 15 = z := ⟨_, rfl⟩
      have hq_v15 := tk_rng v15
      rw [hf14] at hpo4 hpo5 hpo6 hpo10
      have hr_v15 : 0 ≤ v15.toInt ∧ v15.toInt ≤ 400 := hIF.at hf14
      obtain ⟨v17, hf16⟩ : ∃ z : Int32, F 16 = z := ⟨_, rfl⟩
      have hq_v17 := tk_rng v17
      rw [hf16] at hpo6 hpo10
      have hr_v17 : 0 ≤ v17.toInt ∧ v17.toInt ≤ 3 := hIF.at hf16
      obtain ⟨w19, hf18⟩ : ∃ z : Int64, G 17 = z := ⟨_, rfl⟩
      have hq_w19 := tk_rngL w19
      rw [hf18] at hpo10
      exact mz_vret hx hb hr hlocks ⟨hIF, hIG, hIR, hFF, hRR, hGG, (by rw [hf12, hf14]; omega), (by rw [hf14]; omega), (by rw [hf12, hf14, hf16]; omega), (by rw [hf12, hf14, hf16, hf18]; omega), (by rw [hf12]; omega), (by rw [hg_5]; omega), (by rw [hf12, hg_5]; omega), (by rw [hg_5]; omega)⟩ hM hS dX13_must_35
    · have hc2 : p1.toInt = 0 := (fi_eq rfl (show (0 : Int32).toInt = 0 by decide)).mp c9
      refine lv_aload_n hx hb dX13_must_11 rfl (lv_at hl 0 rfl) ?_
      refine lv_iconst (v := 1) hx hb dX13_must_12 (by decide) ?_
      have hk_1 : (1 : Int32).toInt = 1 := by decide
      have hk_1 : (1 : Int32).toInt = 1 := by decide
      refine mz_putI (ty := .boolean) (x := 1) hx hb htl hown hK hD hM hS 19 (Nat.le_of_ble_eq_true rfl) rfl (htl _ mw_668) (fun _ h9 => h9) rfl (tyX13_ok 19 (by decide)) rfl rfl dX13_must_13 (fun H locs F hM hS hf9 hj9 => ?_)
      have hIF := hIF.put hf9 hj9 (show 0 ≤ (1 : Int32).toInt by omega) (show (1 : Int32).toInt ≤ 1 by omega) (by decide)
      have hFF := mz_frp (K := [14, 15, 16, 18, 19]) (Fa := Fa) hj9 (fun _ _ => rfl) (by decide)
      have hg_0 := (hj9 14 (by decide)).trans hg_0
      have hg_1 := (hj9 15 (by decide)).trans hg_1
      have hg_2 := (hj9 16 (by decide)).trans hg_2
      have hg_3 := (hj9 13 (by decide)).trans hg_3
      have hf21 := hf9
      refine lv_aload_n hx hb dX13_must_16 rfl (lv_at hl 0 rfl) ?_
      refine lv_aload_n hx hb dX13_must_17 rfl (lv_at hl 0 rfl) ?_
      refine mz_getI hx hb htl hown hK hM 14 (Nat.le_of_ble_eq_true rfl) rfl (htl _ mw_686) (fun _ h9 => h9) dX13_must_18 (fun v9 e9 => ?_)
      refine fx_ti (v := gf) (e9.symm.trans hg_0) ?_
      refine mz_putI (ty := .int) (x := gf) hx hb htl hown hK hD hM hS 18 (Nat.le_of_ble_eq_true rfl) rfl (htl _ mw_196) (fun _ h9 => h9) rfl (tyX13_ok 18 (by decide)) rfl rfl dX13_must_21 (fun H locs F hM hS hf9 hj9 => ?_)
      have hIF := hIF.put hf9 hj9 (tk_rng _).1 (tk_rng _).2 (by decide)
      have hFF := mz_frp (K := [14, 15, 16, 18, 19]) (Fa := Fa) hj9 hFF (by decide)
      have hg_0 := (hj9 14 (by decide)).trans hg_0
      have hg_1 := (hj9 15 (by decide)).trans hg_1
      have hg_2 := (hj9 16 (by decide)).trans hg_2
      have hg_3 := (hj9 13 (by decide)).trans hg_3
      have hf21 := (hj9 19 (by decide)).trans hf21
      have hf23 := hf9
      refine lv_aload_n hx hb dX13_must_24 rfl (lv_at hl 0 rfl) ?_
      refine mz_getI hx hb htl hown hK hM 19 (Nat.le_of_ble_eq_true rfl) rfl (htl _ mw_668) (fun _ h9 => h9) dX13_must_25 (fun v9 e9 => ?_)
      refine fx_ti (v := 1) (e9.symm.trans hf21) ?_
      refine lv_if_ne (tgt := 35) hx hb dX13_must_28 (by decide) (fun _ => ?_) (fun c9 => absurd c9 (by decide))
      have hk_1 : (1 : Int32).toInt = 1 := by decide
      exact mz_vret hx hb hr hlocks ⟨hIF, hIG, hIR, hFF, (fun _ _ => rfl), (fun _ _ => rfl), (by rw [hg_0, hg_1]; omega), (by rw [hg_1]; omega), (by rw [hg_0, hg_1, hg_2]; omega), (by rw [hg_0, hg_1, hg_2, hg_4]; omega), (by rw [hg_0]; omega), (by rw [hf21]; omega), (by rw [hg_0, hf21]; omega), (by rw [hf21]; omega)⟩ hM hS dX13_must_35
end
section
theorem hd_yX13_must : yX13_must.cls ≠ "java/lang/invoke/MethodHandle" ∧ yX13_must.cls ≠ "java/lang/invoke/VarHandle" ∧ (parseMethodDescriptor yX13_must.desc).map (fun d => d.parameters.length) = some 1 := by decide +kernel
theorem dX13_number_0 : decode cX13_number 0 = .ok (.aload_n 0, 1) := by decide +kernel
theorem dX13_number_1 : decode cX13_number 1 = .ok (.getfield 246, 3) := by decide +kernel
theorem dX13_number_4 : decode cX13_number 4 = .ok (.l2i, 1) := by decide +kernel
theorem dX13_number_5 : decode cX13_number 5 = .ok (.istore 5, 2) := by decide +kernel
theorem dX13_number_7 : decode cX13_number 7 = .ok (.aload_n 0, 1) := by decide +kernel
theorem dX13_number_8 : decode cX13_number 8 = .ok (.aload_n 0, 1) := by decide +kernel
theorem dX13_number_9 : decode cX13_number 9 = .ok (.getfield 256, 3) := by decide +kernel
theorem dX13_number_12 : decode cX13_number 12 = .ok (.iconst 2, 1) := by decide +kernel
theorem dX13_number_13 : decode cX13_number 13 = .ok (.if_icmp .ne 19, 3) := by decide +kernel
theorem dX13_number_32 : decode cX13_number 32 = .ok (.iconst 0, 1) := by decide +kernel
theorem dX13_number_33 : decode cX13_number 33 = .ok (.invokevirtual 271, 3) := by decide +kernel
theorem dX13_number_36 : decode cX13_number 36 = .ok (.iload 5, 2) := by decide +kernel
theorem dX13_number_38 : decode cX13_number 38 = .ok (.ireturn, 1) := by decide +kernel
theorem dX13_number_16 : decode cX13_number 16 = .ok (.aload_n 0, 1) := by decide +kernel
theorem dX13_number_17 : decode cX13_number 17 = .ok (.getfield 246, 3) := by decide +kernel
theorem dX13_number_20 : decode cX13_number 20 = .ok (.lload_n 1, 1) := by decide +kernel
theorem dX13_number_21 : decode cX13_number 21 = .ok (.lload_n 3, 1) := by decide +kernel
theorem dX13_number_22 : decode cX13_number 22 = .ok (.invokestatic 190, 3) := by decide +kernel
theorem dX13_number_25 : decode cX13_number 25 = .ok (.ifCond .eq 7, 3) := by decide +kernel
theorem dX13_number_28 : decode cX13_number 28 = .ok (.iconst 1, 1) := by decide +kernel
theorem dX13_number_29 : decode cX13_number 29 = .ok (.goto 4, 3) := by decide +kernel
set_option maxHeartbeats 4000000 in
set_option maxRecDepth 100000 in
theorem k_X13_number (l : Launch) (D : va_G) (cy : Nat → ClassId) (ld ad : Nat → Nat) (am : Nat) (hD : mz_D ad am) (Fa : Nat → Int32) (Ga : Nat → Int64) (Ra : Nat → Nat → Int32) (Sa : Nat → Nat → Int64) (p1 : Int64) (p2 : Int64) (gf : Int32) (gt : Int32) (gs : Int32) (gp : Int32) (gw : Int64) (gb : Int32) (hIF : mz_IF false Fa) (hIG : mz_IG Ga) (hIR : mz_IR [] true Ra) (hg_0 : Fa 14 = gf) (hg_1 : Fa 15 = gt) (hg_2 : Fa 16 = gs) (hg_3 : Fa 13 = gp) (hg_4 : Ga 17 = gw) (hg_5 : Fa 19 = gb) (hp_0 : (-1000) ≤ p1.toInt) (hp_1 : p1.toInt ≤ 1000) (hp_2 : (-1000) ≤ p2.toInt) (hp_3 : p2.toInt ≤ 1000) (hp_4 : 0 ≤ (-1) * gf.toInt + gt.toInt) (hp_5 : 0 ≤ gp.toInt + (-1) * gt.toInt) (hp_6 : (1 ≤ gs.toInt → 0 ≤ (-1) * gf.toInt + gt.toInt + (-1))) (hp_7 : (27 ≤ gw.toInt → 1 ≤ gs.toInt → gs.toInt ≤ 1 → 0 ≤ (-1) * gf.toInt + gt.toInt + (-2))) : Met l yX13_number (wl yX13_number cX13_number 6 (some .int)) ({ frames := 6, cells := 0, slots := 0, locals := 350 }) (mz_p D cy ld ad am Fa Ga Ra Sa [.ref am, .long p1, .long p2]) (mz_i D cy ad am (fun r F G R S => mz_IF false F ∧ mz_IG G ∧ mz_IR [] true R ∧ (∀ k : Nat, k ∉ ([14, 15, 16, 18, 19] : List Nat) → F k = Fa k) ∧ (∀ k : Nat, k ∉ ([] : List Nat) → R k = Ra k) ∧ (∀ k : Nat, k ∉ ([17] : List Nat) → G k = Ga k) ∧ 0 ≤ (-1) * (F 14).toInt + (F 15).toInt ∧ 0 ≤ gp.toInt + (-1) * (F 15).toInt ∧ (1 ≤ (F 16).toInt → 0 ≤ (-1) * (F 14).toInt + (F 15).toInt + (-1)) ∧ (27 ≤ (G 17).toInt → 1 ≤ (F 16).toInt → (F 16).toInt ≤ 1 → 0 ≤ (-1) * (F 14).toInt + (F 15).toInt + (-2)) ∧ 0 ≤ (-1) * gf.toInt + (F 14).toInt ∧ 0 ≤ (-1) * gb.toInt + (F 19).toInt ∧ ((F 19).toInt ≤ 0 → 0 ≤ (-1) * gt.toInt + (F 14).toInt ∧ 0 ≤ (-1) * p1.toInt + r.toInt ∧ 0 ≤ p2.toInt + (-1) * r.toInt ∧ gb.toInt ≤ 0))) 0 0 (mz_W ad am) := by
  refine mz_met (y := yX13_number) (cc := cX13_number) (maxL := 6) (ret := (some .int)) (av := [.ref am, .long p1, .long p2]) _ (by decide) (Nat.le_of_ble_eq_true rfl) ?_
  intro p e s m args below meth c hx hb hr hml hts htl hown hlocks hK H locs hM hS ls hl
  have hown : s.vm.findClass RX13 = some m.cls := hown
  have hl : lv_has ls 6 [(0, .ref am), (1, .long p1), (3, .long p2)] := hl
  have hq_gf := tk_rng gf
  have hq_gt := tk_rng gt
  have hq_gs := tk_rng gs
  have hq_gp := tk_rng gp
  have hq_gw := tk_rngL gw
  have hq_gb := tk_rng gb
  have hr_gf : 0 ≤ gf.toInt ∧ gf.toInt ≤ 400 := hIF.at hg_0
  have hr_gt : 0 ≤ gt.toInt ∧ gt.toInt ≤ 400 := hIF.at hg_1
  have hr_gs : 0 ≤ gs.toInt ∧ gs.toInt ≤ 3 := hIF.at hg_2
  have hr_gp : 0 ≤ gp.toInt ∧ gp.toInt ≤ 400 := hIF.at hg_3
  have hr_gb : 0 ≤ gb.toInt ∧ gb.toInt ≤ 1 := hIF.at hg_5
  refine lv_aload_n hx hb dX13_number_0 rfl (lv_at hl 0 rfl) ?_
  refine mz_getJ hx hb htl hown hK hM 17 (Nat.le_of_ble_eq_true rfl) rfl (htl _ mw_687) (fun _ h9 => h9) dX13_number_1 (fun v9 e9 => ?_)
  refine fx_tl (v := gw) (e9.symm.trans hg_4) ?_
  obtain ⟨v1, e_v1⟩ : ∃ z : Int32, gw.toInt32 = z := ⟨_, rfl⟩
  refine lv_l2i (v := v1) hx hb dX13_number_4 e_v1 ?_
  have hq_v1 := tk_rng v1
  have hl_v1 : -2147483648 ≤ gw.toInt → gw.toInt ≤ 2147483647 → v1.toInt = gw.toInt := fun h1 h2 => e_v1 ▸ tk_l2i h1 h2
  refine lv_istore (lv' := [(5, .int v1), (0, .ref am), (1, .long p1), (3, .long p2)]) hx hb dX13_number_5 hl (by decide) rfl (fun ls hl => ?_)
  refine lv_aload_n hx hb dX13_number_7 rfl (lv_at hl 1 rfl) ?_
  refine lv_aload_n hx hb dX13_number_8 rfl (lv_at hl 1 rfl) ?_
  refine mz_getI hx hb htl hown hK hM 16 (Nat.le_of_ble_eq_true rfl) rfl (htl _ mw_688) (fun _ h9 => h9) dX13_number_9 (fun v9 e9 => ?_)
  refine fx_ti (v := gs) (e9.symm.trans hg_2) ?_
  refine lv_iconst (v := 2) hx hb dX13_number_12 (by decide) ?_
  refine lv_icmp_ne (tgt := 32) hx hb dX13_number_13 (by decide) (fun c9 => ?_) (fun c9 => ?_)
  · have hc2 : ¬ (gs.toInt = 2) := fun h9 => c9 ((fi_eq rfl (show (2 : Int32).toInt = 2 by decide)).mpr h9)
    refine lv_iconst (v := 0) hx hb dX13_number_32 (by decide) ?_
    have hk_0 : (0 : Int32).toInt = 0 := by decide
    refine mz_Vv (As := [.int 0]) (rest := []) ⟨hx, hb, hml, hown, hts⟩ hK hM hS (k_X13_must l D cy ld ad am hD _ _ _ _ 0 gf gt gs gp gw gb hIF hIG hIR hg_0 hg_1 hg_2 hg_3 hg_4 hg_5 (by omega) (by omega) (by omega) (by omega) (by omega) (by omega)) ⟨callB_of 1 hts (wl_in mw_713) rfl rfl rfl (htl _ mw_5) (htl _ mw_710) hd_yX13_must ⟨(Nat.le_of_ble_eq_true rfl), (Nat.le_of_ble_eq_true rfl)⟩, htl _ mw_711, htl _ mw_712⟩ rfl hl.1 rfl (Nat.le_of_ble_eq_true rfl) dX13_number_33 ⟨(Nat.le_of_ble_eq_true rfl), (Nat.le_of_ble_eq_true rfl)⟩ (fun H locs F G R S hpo hM hS => ?_)
    obtain ⟨hIF, hIG, hIR, hfr9, hrr9, hgr9, hpo3, hpo4, hpo5, hpo6, hpo10, hpo11, hpo12, hpo13⟩ := hpo
    have hFF := mz_fr (K := [14, 15, 16, 18, 19]) (Fa := Fa) hfr9 (fun _ _ => rfl) (by decide)
    have hRR := mz_fr (K := []) (Fa := Ra) hrr9 (fun _ _ => rfl) (by decide)
    have hGG := mz_fr (K := [17]) (Fa := Ga) hgr9 (fun _ _ => rfl) (by decide)
    have hg_3 := (hfr9 13 (by decide)).trans hg_3
    obtain ⟨v16, hf15⟩ : ∃ z : Int32, F 14 = z := ⟨_, rfl⟩
    have hq_v16 := tk_rng v16
    rw [hf15] at hpo3 hpo5 hpo6 hpo10 hpo12
    have hr_v16 : 0 ≤ v16.toInt ∧ v16.toInt ≤ 400 := hIF.at hf15
    obtain ⟨v18, hf17⟩ : ∃ z : Int32, F 15 = z := ⟨_, rfl⟩
    have hq_v18 := tk_rng v18
    rw [hf17] at hpo3 hpo4 hpo5 hpo6
    have hr_v18 : 0 ≤ v18.toInt ∧ v18.toInt ≤ 400 := hIF.at hf17
    obtain ⟨v20, hf19⟩ : ∃ z : Int32, F 16 = z := ⟨_, rfl⟩
    have hq_v20 := tk_rng v20
    rw [hf19] at hpo5 hpo6
    have hr_v20 : 0 ≤ v20.toInt ∧ v20.toInt ≤ 3 := hIF.at hf19
    obtain ⟨w22, hf21⟩ : ∃ z : Int64, G 17 = z := ⟨_, rfl⟩
    have hq_w22 := tk_rngL w22
    rw [hf21] at hpo6
    obtain ⟨v24, hf23⟩ : ∃ z : Int32, F 19 = z := ⟨_, rfl⟩
    have hq_v24 := tk_rng v24
    rw [hf23] at hpo11 hpo12 hpo13
    have hr_v24 : 0 ≤ v24.toInt ∧ v24.toInt ≤ 1 := hIF.at hf23
    refine lv_iload hx hb dX13_number_36 (lv_at hl 0 rfl) ?_
    exact mz_iret (v := v1) hx hb hr rfl hlocks ⟨hIF, hIG, hIR, hFF, hRR, hGG, (by rw [hf15, hf17]; omega), (by rw [hf17]; omega), (by rw [hf15, hf17, hf19]; omega), (by rw [hf15, hf17, hf19, hf21]; omega), (by rw [hf15]; omega), (by rw [hf23]; omega), (by rw [hf15, hf23]; omega)⟩ hM hS dX13_number_38
  · have hc2 : gs.toInt = 2 := (fi_eq rfl (show (2 : Int32).toInt = 2 by decide)).mp c9
    have hwk_25 : 0 ≤ (-1) * gf.toInt + gt.toInt + (-1) := by omega
    refine lv_aload_n hx hb dX13_number_16 rfl (lv_at hl 1 rfl) ?_
    refine mz_getJ hx hb htl hown hK hM 17 (Nat.le_of_ble_eq_true rfl) rfl (htl _ mw_687) (fun _ h9 => h9) dX13_number_17 (fun v9 e9 => ?_)
    refine fx_tl (v := gw) (e9.symm.trans hg_4) ?_
    refine lv_lload_n hx hb dX13_number_20 rfl (lv_at hl 2 rfl) ?_
    refine lv_lload_n hx hb dX13_number_21 rfl (lv_at hl 3 rfl) ?_
    refine mz_Sj (As := [.long gw, .long p1, .long p2]) (rest := [.ref am]) ⟨hx, hb, hml, hown, hts⟩ hK hM hS (k_X13_in l D cy ld ad am hD _ _ _ _ gw p1 p2) ⟨callB_of 3 hts (wl_in mw_292) rfl rfl rfl (htl _ mw_5) (htl _ mw_290) hd_yX13_in ⟨(Nat.le_of_ble_eq_true rfl), (Nat.le_of_ble_eq_true rfl)⟩, htl _ mw_291⟩ rfl hl.1 rfl (Nat.le_of_ble_eq_true rfl) dX13_number_22 ⟨(Nat.le_of_ble_eq_true rfl), (Nat.le_of_ble_eq_true rfl)⟩ (fun v26 H locs hpo hM hS => ?_)
    obtain ⟨hpo27, hpo28, hpo29, hpo30, hpo31, hpo32⟩ := hpo
    have hq_v26 := tk_rng v26
    refine lv_if_eq (tgt := 32) hx hb dX13_number_25 (by decide) (fun c9 => ?_) (fun c9 => ?_)
    · have hc34 : v26.toInt = 0 := (fi_eq rfl (show (0 : Int32).toInt = 0 by decide)).mp c9
      refine lv_iconst (v := 0) hx hb dX13_number_32 (by decide) ?_
      have hk_0 : (0 : Int32).toInt = 0 := by decide
      refine mz_Vv (As := [.int 0]) (rest := []) ⟨hx, hb, hml, hown, hts⟩ hK hM hS (k_X13_must l D cy ld ad am hD _ _ _ _ 0 gf gt gs gp gw gb hIF hIG hIR hg_0 hg_1 hg_2 hg_3 hg_4 hg_5 (by omega) (by omega) (by omega) (by omega) (by omega) (by omega)) ⟨callB_of 1 hts (wl_in mw_713) rfl rfl rfl (htl _ mw_5) (htl _ mw_710) hd_yX13_must ⟨(Nat.le_of_ble_eq_true rfl), (Nat.le_of_ble_eq_true rfl)⟩, htl _ mw_711, htl _ mw_712⟩ rfl hl.1 rfl (Nat.le_of_ble_eq_true rfl) dX13_number_33 ⟨(Nat.le_of_ble_eq_true rfl), (Nat.le_of_ble_eq_true rfl)⟩ (fun H locs F G R S hpo hM hS => ?_)
      obtain ⟨hIF, hIG, hIR, hfr9, hrr9, hgr9, hpo35, hpo36, hpo37, hpo38, hpo39, hpo40, hpo41, hpo42⟩ := hpo
      have hFF := mz_fr (K := [14, 15, 16, 18, 19]) (Fa := Fa) hfr9 (fun _ _ => rfl) (by decide)
      have hRR := mz_fr (K := []) (Fa := Ra) hrr9 (fun _ _ => rfl) (by decide)
      have hGG := mz_fr (K := [17]) (Fa := Ga) hgr9 (fun _ _ => rfl) (by decide)
      have hg_3 := (hfr9 13 (by decide)).trans hg_3
      obtain ⟨v45, hf44⟩ : ∃ z : Int32, F 14 = z := ⟨_, rfl⟩
      have hq_v45 := tk_rng v45
      rw [hf44] at hpo35 hpo37 hpo38 hpo39 hpo41
      have hr_v45 : 0 ≤ v45.toInt ∧ v45.toInt ≤ 400 := hIF.at hf44
      obtain ⟨v47, hf46⟩ : ∃ z : Int32, F 15 = z := ⟨_, rfl⟩
      have hq_v47 := tk_rng v47
      rw [hf46] at hpo35 hpo36 hpo37 hpo38
      have hr_v47 : 0 ≤ v47.toInt ∧ v47.toInt ≤ 400 := hIF.at hf46
      obtain ⟨v49, hf48⟩ : ∃ z : Int32, F 16 = z := ⟨_, rfl⟩
      have hq_v49 := tk_rng v49
      rw [hf48] at hpo37 hpo38
      have hr_v49 : 0 ≤ v49.toInt ∧ v49.toInt ≤ 3 := hIF.at hf48
      obtain ⟨w51, hf50⟩ : ∃ z : Int64, G 17 = z := ⟨_, rfl⟩
      have hq_w51 := tk_rngL w51
      rw [hf50] at hpo38
      obtain ⟨v53, hf52⟩ : ∃ z : Int32, F 19 = z := ⟨_, rfl⟩
      have hq_v53 := tk_rng v53
      rw [hf52] at hpo40 hpo41 hpo42
      have hr_v53 : 0 ≤ v53.toInt ∧ v53.toInt ≤ 1 := hIF.at hf52
      refine lv_iload hx hb dX13_number_36 (lv_at hl 0 rfl) ?_
      exact mz_iret (v := v1) hx hb hr rfl hlocks ⟨hIF, hIG, hIR, hFF, hRR, hGG, (by rw [hf44, hf46]; omega), (by rw [hf46]; omega), (by rw [hf44, hf46, hf48]; omega), (by rw [hf44, hf46, hf48, hf50]; omega), (by rw [hf44]; omega), (by rw [hf52]; omega), (by rw [hf44, hf52]; omega)⟩ hM hS dX13_number_38
    · have hc34 : ¬ (v26.toInt = 0) := fun h9 => c9 ((fi_eq rfl (show (0 : Int32).toInt = 0 by decide)).mpr h9)
      have hwk_54 : 0 ≤ gw.toInt + (-1) * p1.toInt ∧ 0 ≤ (-1) * gw.toInt + p2.toInt := by omega
      have hwk_55 : (-1) * gw.toInt + v1.toInt = 0 := by omega
      refine lv_iconst (v := 1) hx hb dX13_number_28 (by decide) ?_
      refine lv_goto (tgt := 33) hx hb dX13_number_29 (by decide) ?_
      have hk_1 : (1 : Int32).toInt = 1 := by decide
      refine mz_Vv (As := [.int 1]) (rest := []) ⟨hx, hb, hml, hown, hts⟩ hK hM hS (k_X13_must l D cy ld ad am hD _ _ _ _ 1 gf gt gs gp gw gb hIF hIG hIR hg_0 hg_1 hg_2 hg_3 hg_4 hg_5 (by omega) (by omega) (by omega) (by omega) (by omega) (by omega)) ⟨callB_of 1 hts (wl_in mw_713) rfl rfl rfl (htl _ mw_5) (htl _ mw_710) hd_yX13_must ⟨(Nat.le_of_ble_eq_true rfl), (Nat.le_of_ble_eq_true rfl)⟩, htl _ mw_711, htl _ mw_712⟩ rfl hl.1 rfl (Nat.le_of_ble_eq_true rfl) dX13_number_33 ⟨(Nat.le_of_ble_eq_true rfl), (Nat.le_of_ble_eq_true rfl)⟩ (fun H locs F G R S hpo hM hS => ?_)
      obtain ⟨hIF, hIG, hIR, hfr9, hrr9, hgr9, hpo56, hpo57, hpo58, hpo59, hpo60, hpo61, hpo62, hpo63⟩ := hpo
      have hFF := mz_fr (K := [14, 15, 16, 18, 19]) (Fa := Fa) hfr9 (fun _ _ => rfl) (by decide)
      have hRR := mz_fr (K := []) (Fa := Ra) hrr9 (fun _ _ => rfl) (by decide)
      have hGG := mz_fr (K := [17]) (Fa := Ga) hgr9 (fun _ _ => rfl) (by decide)
      have hg_3 := (hfr9 13 (by decide)).trans hg_3
      obtain ⟨v66, hf65⟩ : ∃ z : Int32, F 14 = z := ⟨_, rfl⟩
      have hq_v66 := tk_rng v66
      rw [hf65] at hpo56 hpo58 hpo59 hpo60 hpo62
      have hr_v66 : 0 ≤ v66.toInt ∧ v66.toInt ≤ 400 := hIF.at hf65
      obtain ⟨v68, hf67⟩ : ∃ z : Int32, F 15 = z := ⟨_, rfl⟩
      have hq_v68 := tk_rng v68
      rw [hf67] at hpo56 hpo57 hpo58 hpo59
      have hr_v68 : 0 ≤ v68.toInt ∧ v68.toInt ≤ 400 := hIF.at hf67
      obtain ⟨v70, hf69⟩ : ∃ z : Int32, F 16 = z := ⟨_, rfl⟩
      have hq_v70 := tk_rng v70
      rw [hf69] at hpo58 hpo59
      have hr_v70 : 0 ≤ v70.toInt ∧ v70.toInt ≤ 3 := hIF.at hf69
      obtain ⟨w72, hf71⟩ : ∃ z : Int64, G 17 = z := ⟨_, rfl⟩
      have hq_w72 := tk_rngL w72
      rw [hf71] at hpo59
      obtain ⟨v74, hf73⟩ : ∃ z : Int32, F 19 = z := ⟨_, rfl⟩
      have hq_v74 := tk_rng v74
      rw [hf73] at hpo61 hpo62 hpo63
      have hr_v74 : 0 ≤ v74.toInt ∧ v74.toInt ≤ 1 := hIF.at hf73
      refine lv_iload hx hb dX13_number_36 (lv_at hl 0 rfl) ?_
      exact mz_iret (v := v1) hx hb hr rfl hlocks ⟨hIF, hIG, hIR, hFF, hRR, hGG, (by rw [hf65, hf67]; omega), (by rw [hf67]; omega), (by rw [hf65, hf67, hf69]; omega), (by rw [hf65, hf67, hf69, hf71]; omega), (by rw [hf65]; omega), (by rw [hf73]; omega), (by rw [hf65, hf73]; omega)⟩ hM hS dX13_number_38
end
section
theorem dX13_fault_0 : decode cX13_fault 0 = .ok (.aload_n 0, 1) := by decide +kernel
theorem dX13_fault_1 : decode cX13_fault 1 = .ok (.iconst 0, 1) := by decide +kernel
theorem dX13_fault_2 : decode cX13_fault 2 = .ok (.putfield 170, 3) := by decide +kernel
theorem dX13_fault_5 : decode cX13_fault 5 = .ok (.aload_n 0, 1) := by decide +kernel
theorem dX13_fault_6 : decode cX13_fault 6 = .ok (.getfield 38, 3) := by decide +kernel
theorem dX13_fault_9 : decode cX13_fault 9 = .ok (.ireturn, 1) := by decide +kernel
set_option maxHeartbeats 4000000 in
set_option maxRecDepth 100000 in
theorem k_X13_fault (l : Launch) (D : va_G) (cy : Nat → ClassId) (ld ad : Nat → Nat) (am : Nat) (hD : mz_D ad am) (Fa : Nat → Int32) (Ga : Nat → Int64) (Ra : Nat → Nat → Int32) (Sa : Nat → Nat → Int64) (hIF : mz_IF true Fa) (hIG : mz_IG Ga) (hIR : mz_IR [] true Ra) : Met l yX13_fault (wl yX13_fault cX13_fault 1 (some .int)) ({ frames := 3, cells := 0, slots := 0, locals := 140 }) (mz_p D cy ld ad am Fa Ga Ra Sa [.ref am]) (mz_i D cy ad am (fun r F G R S => mz_IF true F ∧ mz_IG G ∧ mz_IR [] true R ∧ (∀ k : Nat, k ∉ ([0] : List Nat) → F k = Fa k) ∧ (∀ k : Nat, k ∉ ([] : List Nat) → R k = Ra k) ∧ (∀ k : Nat, k ∉ ([] : List Nat) → G k = Ga k))) 0 0 (mz_W ad am) := by
  refine mz_met (y := yX13_fault) (cc := cX13_fault) (maxL := 1) (ret := (some .int)) (av := [.ref am]) _ (by decide) (Nat.le_of_ble_eq_true rfl) ?_
  intro p e s m args below meth c hx hb hr hml hts htl hown hlocks hK H locs hM hS ls hl
  have hown : s.vm.findClass RX13 = some m.cls := hown
  have hl : lv_has ls 1 [(0, .ref am)] := hl
  refine lv_aload_n hx hb dX13_fault_0 rfl (lv_at hl 0 rfl) ?_
  refine lv_iconst (v := 0) hx hb dX13_fault_1 (by decide) ?_
  have hk_0 : (0 : Int32).toInt = 0 := by decide
  refine mz_putI (ty := .int) (x := 0) hx hb htl hown hK hD hM hS 0 (Nat.le_of_ble_eq_true rfl) rfl (htl _ mw_286) (fun _ h9 => h9) rfl (tyX13_ok 0 (by decide)) rfl rfl dX13_fault_2 (fun H locs F hM hS hf9 hj9 => ?_)
  have hIF := hIF.put hf9 hj9 (tk_rng _).1 (tk_rng _).2 (by decide)
  have hFF := mz_frp (K := [0]) (Fa := Fa) hj9 (fun _ _ => rfl) (by decide)
  have hf2 := hf9
  refine lv_aload_n hx hb dX13_fault_5 rfl (lv_at hl 0 rfl) ?_
  refine mz_getI hx hb htl hown hK hM 18 (Nat.le_of_ble_eq_true rfl) rfl (htl _ mw_196) (fun _ h9 => h9) dX13_fault_6 (fun v4 hf3 => ?_)
  have hq_v4 := tk_rng v4
  exact mz_iret (v := v4) hx hb hr rfl hlocks ⟨hIF, hIG, hIR, hFF, (fun _ _ => rfl), (fun _ _ => rfl)⟩ hM hS dX13_fault_9
end
section
theorem dX13_emit_0 : decode cX13_emit 0 = .ok (.aload_n 0, 1) := by decide +kernel
theorem dX13_emit_1 : decode cX13_emit 1 = .ok (.getfield 45, 3) := by decide +kernel
theorem dX13_emit_4 : decode cX13_emit 4 = .ok (.aload_n 0, 1) := by decide +kernel
theorem dX13_emit_5 : decode cX13_emit 5 = .ok (.getfield 275, 3) := by decide +kernel
theorem dX13_emit_8 : decode cX13_emit 8 = .ok (.iload_n 1, 1) := by decide +kernel
theorem dX13_emit_9 : decode cX13_emit 9 = .ok (.iastore, 1) := by decide +kernel
theorem dX13_emit_10 : decode cX13_emit 10 = .ok (.aload_n 0, 1) := by decide +kernel
theorem dX13_emit_11 : decode cX13_emit 11 = .ok (.getfield 48, 3) := by decide +kernel
theorem dX13_emit_14 : decode cX13_emit 14 = .ok (.aload_n 0, 1) := by decide +kernel
theorem dX13_emit_15 : decode cX13_emit 15 = .ok (.getfield 275, 3) := by decide +kernel
theorem dX13_emit_18 : decode cX13_emit 18 = .ok (.iload_n 2, 1) := by decide +kernel
theorem dX13_emit_19 : decode cX13_emit 19 = .ok (.iastore, 1) := by decide +kernel
theorem dX13_emit_20 : decode cX13_emit 20 = .ok (.aload_n 0, 1) := by decide +kernel
theorem dX13_emit_21 : decode cX13_emit 21 = .ok (.dup, 1) := by decide +kernel
theorem dX13_emit_22 : decode cX13_emit 22 = .ok (.getfield 275, 3) := by decide +kernel
theorem dX13_emit_25 : decode cX13_emit 25 = .ok (.iconst 1, 1) := by decide +kernel
theorem dX13_emit_26 : decode cX13_emit 26 = .ok (.iadd, 1) := by decide +kernel
theorem dX13_emit_27 : decode cX13_emit 27 = .ok (.putfield 275, 3) := by decide +kernel
theorem dX13_emit_30 : decode cX13_emit 30 = .ok (.return_, 1) := by decide +kernel
set_option maxHeartbeats 4000000 in
set_option maxRecDepth 100000 in
theorem k_X13_emit (l : Launch) (D : va_G) (cy : Nat → ClassId) (ld ad : Nat → Nat) (am : Nat) (hD : mz_D ad am) (Fa : Nat → Int32) (Ga : Nat → Int64) (Ra : Nat → Nat → Int32) (Sa : Nat → Nat → Int64) (p1 : Int32) (p2 : Int32) (gc : Int32) (hIF : mz_IF false Fa) (hIG : mz_IG Ga) (hIR : mz_IR [] true Ra) (hg_0 : Fa 23 = gc) (hp_0 : gc.toInt ≤ 399) : Met l yX13_emit (wl yX13_emit cX13_emit 3 none) ({ frames := 3, cells := 0, slots := 0, locals := 140 }) (mz_p D cy ld ad am Fa Ga Ra Sa [.ref am, .int p1, .int p2]) (mz_w D cy ad am (fun F G R S => mz_IF false F ∧ mz_IG G ∧ mz_IR [] true R ∧ (∀ k : Nat, k ∉ ([23] : List Nat) → F k = Fa k) ∧ (∀ k : Nat, k ∉ ([24, 25] : List Nat) → R k = Ra k) ∧ (∀ k : Nat, k ∉ ([] : List Nat) → G k = Ga k) ∧ (-1) * gc.toInt + (F 23).toInt + (-1) = 0 ∧ R 24 = upd (Ra 24) gc.toInt.toNat p1 ∧ R 25 = upd (Ra 25) gc.toInt.toNat p2)) 0 0 (mz_W ad am) := by
  refine mz_met (y := yX13_emit) (cc := cX13_emit) (maxL := 3) (ret := none) (av := [.ref am, .int p1, .int p2]) _ (by decide) (Nat.le_of_ble_eq_true rfl) ?_
  intro p e s m args below meth c hx hb hr hml hts htl hown hlocks hK H locs hM hS ls hl
  have hown : s.vm.findClass RX13 = some m.cls := hown
  have hl : lv_has ls 3 [(0, .ref am), (1, .int p1), (2, .int p2)] := hl
  have hr_p1 := tk_rng p1
  have hr_p2 := tk_rng p2
  have hq_gc := tk_rng gc
  have hr_gc : 0 ≤ gc.toInt ∧ gc.toInt ≤ 400 := hIF.at hg_0
  refine lv_aload_n hx hb dX13_emit_0 rfl (lv_at hl 0 rfl) ?_
  refine mz_getR hx hb htl hown hK hM 24 (Nat.le_of_ble_eq_true rfl) (Nat.le_of_ble_eq_true rfl) (htl _ mw_198) (fun _ h9 => h9) dX13_emit_1 ?_
  refine lv_aload_n hx hb dX13_emit_4 rfl (lv_at hl 0 rfl) ?_
  refine mz_getI hx hb htl hown hK hM 23 (Nat.le_of_ble_eq_true rfl) rfl (htl _ mw_670) (fun _ h9 => h9) dX13_emit_5 (fun v9 e9 => ?_)
  refine fx_ti (v := gc) (e9.symm.trans hg_0) ?_
  refine lv_iload_n hx hb dX13_emit_8 rfl (lv_at hl 1 rfl) ?_
  refine mz_iast (x := p1) hx hb hK hD hM hS 24 (Nat.le_of_ble_eq_true rfl) rfl (nn := 400) rfl rfl (by omega) (by omega) dX13_emit_9 (fun H locs R hM hS hw9 hj9 => ?_)
  have hIR := hIR.put hw9 hj9 trivial
  have hRR := mz_frp (K := [24, 25]) (Fa := Ra) hj9 (fun _ _ => rfl) (by decide)
  have hre_24 : R 24 = upd (Ra 24) (gc : Int32).toNatClampNeg p1 := hw9.trans (congrArg (fun f => upd f (gc : Int32).toNatClampNeg p1) (rfl : Ra 24 = Ra 24))
  have hre_25 : R 25 = Ra 25 := (hj9 25 (by decide)).trans (rfl : Ra 25 = Ra 25)
  refine lv_aload_n hx hb dX13_emit_10 rfl (lv_at hl 0 rfl) ?_
  refine mz_getR hx hb htl hown hK hM 25 (Nat.le_of_ble_eq_true rfl) (Nat.le_of_ble_eq_true rfl) (htl _ mw_199) (fun _ h9 => h9) dX13_emit_11 ?_
  refine lv_aload_n hx hb dX13_emit_14 rfl (lv_at hl 0 rfl) ?_
  refine mz_getI hx hb htl hown hK hM 23 (Nat.le_of_ble_eq_true rfl) rfl (htl _ mw_670) (fun _ h9 => h9) dX13_emit_15 (fun v9 e9 => ?_)
  refine fx_ti (v := gc) (e9.symm.trans hg_0) ?_
  refine lv_iload_n hx hb dX13_emit_18 rfl (lv_at hl 2 rfl) ?_
  refine mz_iast (x := p2) hx hb hK hD hM hS 25 (Nat.le_of_ble_eq_true rfl) rfl (nn := 400) rfl rfl (by omega) (by omega) dX13_emit_19 (fun H locs R hM hS hw9 hj9 => ?_)
  have hIR := hIR.put hw9 hj9 trivial
  have hRR := mz_frp (K := [24, 25]) (Fa := Ra) hj9 hRR (by decide)
  have hre_24 : R 24 = upd (Ra 24) (gc : Int32).toNatClampNeg p1 := (hj9 24 (by decide)).trans hre_24
  have hre_25 : R 25 = upd (Ra 25) (gc : Int32).toNatClampNeg p2 := hw9.trans (congrArg (fun f => upd f (gc : Int32).toNatClampNeg p2) hre_25)
  refine lv_aload_n hx hb dX13_emit_20 rfl (lv_at hl 0 rfl) ?_
  refine lv_dup hx hb dX13_emit_21 rfl ?_
  refine mz_getI hx hb htl hown hK hM 23 (Nat.le_of_ble_eq_true rfl) rfl (htl _ mw_670) (fun _ h9 => h9) dX13_emit_22 (fun v9 e9 => ?_)
  refine fx_ti (v := gc) (e9.symm.trans hg_0) ?_
  refine lv_iconst (v := 1) hx hb dX13_emit_25 (by decide) ?_
  refine lv_iadd hx hb dX13_emit_26 ?_
  refine tk_add rfl (show (1 : Int32).toInt = 1 by decide) (by omega) (by omega) (fun v3 h_v3 => ?_)
  refine mz_putI (ty := .int) (x := v3) hx hb htl hown hK hD hM hS 23 (Nat.le_of_ble_eq_true rfl) rfl (htl _ mw_670) (fun _ h9 => h9) rfl (tyX13_ok 23 (by decide)) rfl rfl dX13_emit_27 (fun H locs F hM hS hf9 hj9 => ?_)
  have hIF := hIF.put hf9 hj9 (show 0 ≤ (v3 : Int32).toInt by omega) (show (v3 : Int32).toInt ≤ 400 by omega) (by decide)
  have hFF := mz_frp (K := [23]) (Fa := Fa) hj9 (fun _ _ => rfl) (by decide)
  have hf5 := hf9
  exact mz_vret hx hb hr hlocks ⟨hIF, hIG, hIR, hFF, hRR, (fun _ _ => rfl), (by rw [hf5]; omega), hre_24, hre_25⟩ hM hS dX13_emit_30
end
section
theorem dX13_push_0 : decode cX13_push 0 = .ok (.aload_n 0, 1) := by decide +kernel
theorem dX13_push_1 : decode cX13_push 1 = .ok (.getfield 51, 3) := by decide +kernel
theorem dX13_push_4 : decode cX13_push 4 = .ok (.aload_n 0, 1) := by decide +kernel
theorem dX13_push_5 : decode cX13_push 5 = .ok (.getfield 278, 3) := by decide +kernel
theorem dX13_push_8 : decode cX13_push 8 = .ok (.iload_n 1, 1) := by decide +kernel
theorem dX13_push_9 : decode cX13_push 9 = .ok (.iastore, 1) := by decide +kernel
theorem dX13_push_10 : decode cX13_push 10 = .ok (.aload_n 0, 1) := by decide +kernel
theorem dX13_push_11 : decode cX13_push 11 = .ok (.getfield 54, 3) := by decide +kernel
theorem dX13_push_14 : decode cX13_push 14 = .ok (.aload_n 0, 1) := by decide +kernel
theorem dX13_push_15 : decode cX13_push 15 = .ok (.getfield 278, 3) := by decide +kernel
theorem dX13_push_18 : decode cX13_push 18 = .ok (.iload_n 2, 1) := by decide +kernel
theorem dX13_push_19 : decode cX13_push 19 = .ok (.iastore, 1) := by decide +kernel
theorem dX13_push_20 : decode cX13_push 20 = .ok (.aload_n 0, 1) := by decide +kernel
theorem dX13_push_21 : decode cX13_push 21 = .ok (.dup, 1) := by decide +kernel
theorem dX13_push_22 : decode cX13_push 22 = .ok (.getfield 278, 3) := by decide +kernel
theorem dX13_push_25 : decode cX13_push 25 = .ok (.iconst 1, 1) := by decide +kernel
theorem dX13_push_26 : decode cX13_push 26 = .ok (.iadd, 1) := by decide +kernel
theorem dX13_push_27 : decode cX13_push 27 = .ok (.putfield 278, 3) := by decide +kernel
theorem dX13_push_30 : decode cX13_push 30 = .ok (.return_, 1) := by decide +kernel
set_option maxHeartbeats 4000000 in
set_option maxRecDepth 100000 in
theorem k_X13_push (l : Launch) (D : va_G) (cy : Nat → ClassId) (ld ad : Nat → Nat) (am : Nat) (hD : mz_D ad am) (Fa : Nat → Int32) (Ga : Nat → Int64) (Ra : Nat → Nat → Int32) (Sa : Nat → Nat → Int64) (p1 : Int32) (p2 : Int32) (gd : Int32) (hIF : mz_IF false Fa) (hIG : mz_IG Ga) (hIR : mz_IR [] true Ra) (hg_0 : Fa 29 = gd) (hp_0 : 0 ≤ p2.toInt) (hp_1 : p2.toInt ≤ 399) (hp_2 : gd.toInt ≤ 399) : Met l yX13_push (wl yX13_push cX13_push 3 none) ({ frames := 3, cells := 0, slots := 0, locals := 140 }) (mz_p D cy ld ad am Fa Ga Ra Sa [.ref am, .int p1, .int p2]) (mz_w D cy ad am (fun F G R S => mz_IF false F ∧ mz_IG G ∧ mz_IR [] true R ∧ (∀ k : Nat, k ∉ ([29] : List Nat) → F k = Fa k) ∧ (∀ k : Nat, k ∉ ([27, 28] : List Nat) → R k = Ra k) ∧ (∀ k : Nat, k ∉ ([] : List Nat) → G k = Ga k) ∧ (-1) * gd.toInt + (F 29).toInt + (-1) = 0 ∧ R 27 = upd (Ra 27) gd.toInt.toNat p1 ∧ R 28 = upd (Ra 28) gd.toInt.toNat p2)) 0 0 (mz_W ad am) := by
  refine mz_met (y := yX13_push) (cc := cX13_push) (maxL := 3) (ret := none) (av := [.ref am, .int p1, .int p2]) _ (by decide) (Nat.le_of_ble_eq_true rfl) ?_
  intro p e s m args below meth c hx hb hr hml hts htl hown hlocks hK H locs hM hS ls hl
  have hown : s.vm.findClass RX13 = some m.cls := hown
  have hl : lv_has ls 3 [(0, .ref am), (1, .int p1), (2, .int p2)] := hl
  have hr_p1 := tk_rng p1
  have hr_p2 := tk_rng p2
  have hq_gd := tk_rng gd
  have hr_gd : 0 ≤ gd.toInt ∧ gd.toInt ≤ 400 := hIF.at hg_0
  refine lv_aload_n hx hb dX13_push_0 rfl (lv_at hl 0 rfl) ?_
  refine mz_getR hx hb htl hown hK hM 27 (Nat.le_of_ble_eq_true rfl) (Nat.le_of_ble_eq_true rfl) (htl _ mw_200) (fun _ h9 => h9) dX13_push_1 ?_
  refine lv_aload_n hx hb dX13_push_4 rfl (lv_at hl 0 rfl) ?_
  refine mz_getI hx hb htl hown hK hM 29 (Nat.le_of_ble_eq_true rfl) rfl (htl _ mw_718) (fun _ h9 => h9) dX13_push_5 (fun v9 e9 => ?_)
  refine fx_ti (v := gd) (e9.symm.trans hg_0) ?_
  refine lv_iload_n hx hb dX13_push_8 rfl (lv_at hl 1 rfl) ?_
  refine mz_iast (x := p1) hx hb hK hD hM hS 27 (Nat.le_of_ble_eq_true rfl) rfl (nn := 400) rfl rfl (by omega) (by omega) dX13_push_9 (fun H locs R hM hS hw9 hj9 => ?_)
  have hIR := hIR.put hw9 hj9 trivial
  have hRR := mz_frp (K := [27, 28]) (Fa := Ra) hj9 (fun _ _ => rfl) (by decide)
  have hre_27 : R 27 = upd (Ra 27) (gd : Int32).toNatClampNeg p1 := hw9.trans (congrArg (fun f => upd f (gd : Int32).toNatClampNeg p1) (rfl : Ra 27 = Ra 27))
  have hre_28 : R 28 = Ra 28 := (hj9 28 (by decide)).trans (rfl : Ra 28 = Ra 28)
  refine lv_aload_n hx hb dX13_push_10 rfl (lv_at hl 0 rfl) ?_
  refine mz_getR hx hb htl hown hK hM 28 (Nat.le_of_ble_eq_true rfl) (Nat.le_of_ble_eq_true rfl) (htl _ mw_201) (fun _ h9 => h9) dX13_push_11 ?_
  refine lv_aload_n hx hb dX13_push_14 rfl (lv_at hl 0 rfl) ?_
  refine mz_getI hx hb htl hown hK hM 29 (Nat.le_of_ble_eq_true rfl) rfl (htl _ mw_718) (fun _ h9 => h9) dX13_push_15 (fun v9 e9 => ?_)
  refine fx_ti (v := gd) (e9.symm.trans hg_0) ?_
  refine lv_iload_n hx hb dX13_push_18 rfl (lv_at hl 2 rfl) ?_
  refine mz_iast (x := p2) hx hb hK hD hM hS 28 (Nat.le_of_ble_eq_true rfl) rfl (nn := 400) rfl rfl (by omega) (by omega) dX13_push_19 (fun H locs R hM hS hw9 hj9 => ?_)
  have hIR := hIR.put hw9 hj9 (mz_elp (hIR.at 28) (show 0 ≤ (p2 : Int32).toInt by omega) (show (p2 : Int32).toInt ≤ 399 by omega))
  have hRR := mz_frp (K := [27, 28]) (Fa := Ra) hj9 hRR (by decide)
  have hre_27 : R 27 = upd (Ra 27) (gd : Int32).toNatClampNeg p1 := (hj9 27 (by decide)).trans hre_27
  have hre_28 : R 28 = upd (Ra 28) (gd : Int32).toNatClampNeg p2 := hw9.trans (congrArg (fun f => upd f (gd : Int32).toNatClampNeg p2) hre_28)
  refine lv_aload_n hx hb dX13_push_20 rfl (lv_at hl 0 rfl) ?_
  refine lv_dup hx hb dX13_push_21 rfl ?_
  refine mz_getI hx hb htl hown hK hM 29 (Nat.le_of_ble_eq_true rfl) rfl (htl _ mw_718) (fun _ h9 => h9) dX13_push_22 (fun v9 e9 => ?_)
  refine fx_ti (v := gd) (e9.symm.trans hg_0) ?_
  refine lv_iconst (v := 1) hx hb dX13_push_25 (by decide) ?_
  refine lv_iadd hx hb dX13_push_26 ?_
  refine tk_add rfl (show (1 : Int32).toInt = 1 by decide) (by omega) (by omega) (fun v3 h_v3 => ?_)
  refine mz_putI (ty := .int) (x := v3) hx hb htl hown hK hD hM hS 29 (Nat.le_of_ble_eq_true rfl) rfl (htl _ mw_718) (fun _ h9 => h9) rfl (tyX13_ok 29 (by decide)) rfl rfl dX13_push_27 (fun H locs F hM hS hf9 hj9 => ?_)
  have hIF := hIF.put hf9 hj9 (show 0 ≤ (v3 : Int32).toInt by omega) (show (v3 : Int32).toInt ≤ 400 by omega) (by decide)
  have hFF := mz_frp (K := [29]) (Fa := Fa) hj9 (fun _ _ => rfl) (by decide)
  have hf5 := hf9
  exact mz_vret hx hb hr hlocks ⟨hIF, hIG, hIR, hFF, hRR, (fun _ _ => rfl), (by rw [hf5]; omega), hre_27, hre_28⟩ hM hS dX13_push_30
end
