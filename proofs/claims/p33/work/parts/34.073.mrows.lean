theorem dX13_isBarredSet_0 : decode cX13_isBarredSet 0 = .ok (.aload_n 0, 1) := by decide +kernel
theorem dX13_isBarredSet_1 : decode cX13_isBarredSet 1 = .ok (.iconst 3, 1) := by decide +kernel
theorem dX13_isBarredSet_2 : decode cX13_isBarredSet 2 = .ok (.lconst 0, 1) := by decide +kernel
theorem dX13_isBarredSet_3 : decode cX13_isBarredSet 3 = .ok (.invokevirtual 417, 3) := by decide +kernel
theorem dX13_isBarredSet_6 : decode cX13_isBarredSet 6 = .ok (.lconst 1, 1) := by decide +kernel
theorem dX13_isBarredSet_7 : decode cX13_isBarredSet 7 = .ok (.lcmp, 1) := by decide +kernel
theorem dX13_isBarredSet_8 : decode cX13_isBarredSet 8 = .ok (.ifCond .ne 7, 3) := by decide +kernel
theorem dX13_isBarredSet_15 : decode cX13_isBarredSet 15 = .ok (.iconst 0, 1) := by decide +kernel
theorem dX13_isBarredSet_16 : decode cX13_isBarredSet 16 = .ok (.ireturn, 1) := by decide +kernel
theorem dX13_isBarredSet_11 : decode cX13_isBarredSet 11 = .ok (.iconst 1, 1) := by decide +kernel
theorem dX13_isBarredSet_12 : decode cX13_isBarredSet 12 = .ok (.goto 4, 3) := by decide +kernel
set_option maxHeartbeats 4000000 in
set_option maxRecDepth 100000 in
theorem k_X13_isBarredSet (l : Launch) (D : va_G) (cy : Nat → ClassId) (ld ad : Nat → Nat) (am : Nat) (hD : mz_D ad am) (Fa : Nat → Int32) (Ga : Nat → Int64) (Ra : Nat → Nat → Int32) (Sa : Nat → Nat → Int64) (hIF : mz_IF true Fa) (hIG : mz_IG Ga) (hIR : mz_IR [] true Ra) : Met l yX13_isBarredSet (wl yX13_isBarredSet cX13_isBarredSet 1 (some .boolean)) ({ frames := 8, cells := 0, slots := 0, locals := 490 }) (mz_p D cy ld ad am Fa Ga Ra Sa [.ref am]) (mz_i D cy ad am (fun r F G R S => mz_IF true F ∧ mz_IG G ∧ mz_IR [] true R ∧ (∀ k : Nat, k ∉ ([34, 38] : List Nat) → F k = Fa k) ∧ (∀ k : Nat, k ∉ ([] : List Nat) → R k = Ra k) ∧ (∀ k : Nat, k ∉ ([39, 40] : List Nat) → G k = Ga k) ∧ 0 ≤ r.toInt ∧ r.toInt ≤ 1 ∧ 0 ≤ r.toInt ∧ r.toInt ≤ 1)) 0 0 (mz_W ad am) := by
  refine mz_met (y := yX13_isBarredSet) (cc := cX13_isBarredSet) (maxL := 1) (ret := (some .boolean)) (av := [.ref am]) _ (by decide) (Nat.le_of_ble_eq_true rfl) ?_
  intro p e s m args below meth c hx hb hr hml hts htl hown hlocks hK H locs hM hS ls hl
  have hown : s.vm.findClass RX13 = some m.cls := hown
  have hl : lv_has ls 1 [(0, .ref am)] := hl
  refine lv_aload_n hx hb dX13_isBarredSet_0 rfl (lv_at hl 0 rfl) ?_
  refine lv_iconst (v := 3) hx hb dX13_isBarredSet_1 (by decide) ?_
  refine lv_lconst (v := 0) hx hb dX13_isBarredSet_2 (by decide) ?_
  have hk_3 : (3 : Int32).toInt = 3 := by decide
  have hk_0 : (0 : Int64).toInt = 0 := by decide
  refine mz_Vl (As := [.int 3, .long 0]) (rest := []) ⟨hx, hb, hml, hown, hts⟩ hK hM hS (k_X13_tells l D cy ld ad am hD _ _ _ _ 3 0 hIF hIG hIR) ⟨callB_of 2 hts (wl_in mw_1107) rfl rfl rfl (htl _ mw_5) (htl _ mw_1104) hd_yX13_tells ⟨(Nat.le_of_ble_eq_true rfl), (Nat.le_of_ble_eq_true rfl)⟩, htl _ mw_1105, htl _ mw_1106⟩ rfl hl.1 rfl (Nat.le_of_ble_eq_true rfl) dX13_isBarredSet_3 ⟨(Nat.le_of_ble_eq_true rfl), (Nat.le_of_ble_eq_true rfl)⟩ (fun w1 H locs F G R S hpo hM hS => ?_)
  obtain ⟨hIF, hIG, hIR, hfr9, hrr9, hgr9⟩ := hpo
  have hq_w1 := tk_rngL w1
  have hFF := mz_fr (K := [34, 38]) (Fa := Fa) hfr9 (fun _ _ => rfl) (by decide)
  have hRR := mz_fr (K := []) (Fa := Ra) hrr9 (fun _ _ => rfl) (by decide)
  have hGG := mz_fr (K := [39, 40]) (Fa := Ga) hgr9 (fun _ _ => rfl) (by decide)
  refine lv_lconst (v := 1) hx hb dX13_isBarredSet_6 (by decide) ?_
  refine W.lcmp hx hb dX13_isBarredSet_7 ?_
  refine lv_if_ne (tgt := 15) hx hb dX13_isBarredSet_8 (by decide) (fun c9 => ?_) (fun c9 => ?_)
  · have hc3 : ¬ (w1.toInt = 1) := fun h9 => c9 (((lg_cmp_eq _ _).trans (fl_eq rfl (show (1 : Int64).toInt = 1 by decide))).mpr h9)
    refine lv_iconst (v := 0) hx hb dX13_isBarredSet_15 (by decide) ?_
    have hk_0 : (0 : Int32).toInt = 0 := by decide
    exact mz_iret (v := 0) hx hb hr rfl hlocks ⟨hIF, hIG, hIR, hFF, hRR, hGG, (by omega), (by omega), (by omega), (by omega)⟩ hM hS dX13_isBarredSet_16
  · have hc3 : w1.toInt = 1 := ((lg_cmp_eq _ _).trans (fl_eq rfl (show (1 : Int64).toInt = 1 by decide))).mp c9
    refine lv_iconst (v := 1) hx hb dX13_isBarredSet_11 (by decide) ?_
    refine lv_goto (tgt := 16) hx hb dX13_isBarredSet_12 (by decide) ?_
    have hk_1 : (1 : Int32).toInt = 1 := by decide
    exact mz_iret (v := 1) hx hb hr rfl hlocks ⟨hIF, hIG, hIR, hFF, hRR, hGG, (by omega), (by omega), (by omega), (by omega)⟩ hM hS dX13_isBarredSet_16
