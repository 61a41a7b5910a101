section
theorem dX13_listener_0 : decode cX13_listener 0 = .ok (.aload_n 0, 1) := by decide +kernel
theorem dX13_listener_1 : decode cX13_listener 1 = .ok (.iconst 4, 1) := by decide +kernel
theorem dX13_listener_2 : decode cX13_listener 2 = .ok (.invokevirtual 194, 3) := by decide +kernel
theorem dX13_listener_5 : decode cX13_listener 5 = .ok (.aload_n 0, 1) := by decide +kernel
theorem dX13_listener_6 : decode cX13_listener 6 = .ok (.iconst 0, 1) := by decide +kernel
theorem dX13_listener_7 : decode cX13_listener 7 = .ok (.invokevirtual 194, 3) := by decide +kernel
theorem dX13_listener_10 : decode cX13_listener 10 = .ok (.if_icmp .ne 11, 3) := by decide +kernel
theorem dX13_listener_21 : decode cX13_listener 21 = .ok (.aload_n 0, 1) := by decide +kernel
theorem dX13_listener_22 : decode cX13_listener 22 = .ok (.iconst 0, 1) := by decide +kernel
theorem dX13_listener_23 : decode cX13_listener 23 = .ok (.invokevirtual 194, 3) := by decide +kernel
theorem dX13_listener_26 : decode cX13_listener 26 = .ok (.ireturn, 1) := by decide +kernel
theorem dX13_listener_13 : decode cX13_listener 13 = .ok (.aload_n 0, 1) := by decide +kernel
theorem dX13_listener_14 : decode cX13_listener 14 = .ok (.iconst 1, 1) := by decide +kernel
theorem dX13_listener_15 : decode cX13_listener 15 = .ok (.invokevirtual 194, 3) := by decide +kernel
theorem dX13_listener_18 : decode cX13_listener 18 = .ok (.goto 8, 3) := by decide +kernel
set_option maxHeartbeats 4000000 in
set_option maxRecDepth 100000 in
theorem k_X13_listener (l : Launch) (D : va_G) (cy : Nat → ClassId) (ld ad : Nat → Nat) (am : Nat) (hD : mz_D ad am) (Fa : Nat → Int32) (Ga : Nat → Int64) (Ra : Nat → Nat → Int32) (Sa : Nat → Nat → Int64) (g12 : Int32) (g13 : Int32) (g16 : Int32) (hIF : mz_IF false Fa) (hIG : mz_IG Ga) (hIR : mz_IR [] true Ra) (hg_0 : Ra 3 12 = g12) (hg_1 : Ra 3 13 = g13) (hg_2 : Ra 3 16 = g16) : Met l yX13_listener (wl yX13_listener cX13_listener 1 (some .int)) ({ frames := 4, cells := 0, slots := 0, locals := 210 }) (mz_p D cy ld ad am Fa Ga Ra Sa [.ref am]) (mz_j D cy ad am Fa Ga Ra Sa (fun r => (0 ≤ g12.toInt → 0 ≤ r.toInt) ∧ (-1) ≤ r.toInt ∧ r.toInt ≤ 7 ∧ ((-1) * g12.toInt + g16.toInt = 0 → (-1) * g13.toInt + r.toInt = 0) ∧ (0 ≤ (-1) * g12.toInt + g16.toInt + (-1) → (-1) * g12.toInt + r.toInt = 0) ∧ (0 ≤ g12.toInt + (-1) * g16.toInt + (-1) → (-1) * g12.toInt + r.toInt = 0))) 0 0 (mz_W ad am) := by
  refine mz_met (y := yX13_listener) (cc := cX13_listener) (maxL := 1) (ret := (some .int)) (av := [.ref am]) _ (by decide) (Nat.le_of_ble_eq_true rfl) ?_
  intro p e s m args below meth c hx hb hr hml hts htl hown hlocks hK H locs hM hS ls hl
  have hown : s.vm.findClass RX13 = some m.cls := hown
  have hl : lv_has ls 1 [(0, .ref am)] := hl
  have hq_g12 := tk_rng g12
  have hq_g13 := tk_rng g13
  have hq_g16 := tk_rng g16
  have hr_g12 : (-1) ≤ g12.toInt ∧ g12.toInt ≤ 7 := by have h9 := hIR.d; unfold dO at h9; rw [hg_0] at h9; omega
  have hr_g13 : (-1) ≤ g13.toInt ∧ g13.toInt ≤ 7 := by have h9 := hIR.d; unfold dO at h9; rw [hg_1] at h9; omega
  have hti_0 : g12.toInt ≠ -1 → g13.toInt ≠ -1 := by have h9 := hIR.d.2.2.2.2.2; rw [hg_0, hg_1] at h9; exact fun h8 => (h9 h8).1
  have hr_g16 : (-1) ≤ g16.toInt ∧ g16.toInt ≤ 7 := by have h9 := hIR.d; unfold dO at h9; rw [hg_2] at h9; omega
  have hti_1 : g12.toInt ≠ -1 → g16.toInt ≠ -1 := by have h9 := hIR.d.2.2.2.2.2; rw [hg_0, hg_2] at h9; exact fun h8 => (h9 h8).2.2
  refine lv_aload_n hx hb dX13_listener_0 rfl (lv_at hl 0 rfl) ?_
  refine lv_iconst (v := 4) hx hb dX13_listener_1 (by decide) ?_
  have hk_4 : (4 : Int32).toInt = 4 := by decide
  refine mz_Vj (As := [.int 4]) (rest := []) ⟨hx, hb, hml, hown, hts⟩ hK hM hS (k_X13_inDuel_4 l D cy ld ad am hD _ _ _ _ g16 hg_2) ⟨callB_of 1 hts (wl_in mw_1046) rfl rfl rfl (htl _ mw_5) (htl _ mw_1043) hd_yX13_inDuel ⟨(Nat.le_of_ble_eq_true rfl), (Nat.le_of_ble_eq_true rfl)⟩, htl _ mw_1044, htl _ mw_1045⟩ rfl hl.1 rfl (Nat.le_of_ble_eq_true rfl) dX13_listener_2 ⟨(Nat.le_of_ble_eq_true rfl), (Nat.le_of_ble_eq_true rfl)⟩ (fun v3 H locs hpo hM hS => ?_)
  have hpo4 := hpo
  have hq_v3 := tk_rng v3
  refine lv_aload_n hx hb dX13_listener_5 rfl (lv_at hl 0 rfl) ?_
  refine lv_iconst (v := 0) hx hb dX13_listener_6 (by decide) ?_
  have hk_0 : (0 : Int32).toInt = 0 := by decide
  refine mz_Vj (As := [.int 0]) (rest := [.int v3]) ⟨hx, hb, hml, hown, hts⟩ hK hM hS (k_X13_inDuel_0 l D cy ld ad am hD _ _ _ _ g12 hg_0) ⟨callB_of 1 hts (wl_in mw_1046) rfl rfl rfl (htl _ mw_5) (htl _ mw_1043) hd_yX13_inDuel ⟨(Nat.le_of_ble_eq_true rfl), (Nat.le_of_ble_eq_true rfl)⟩, htl _ mw_1044, htl _ mw_1045⟩ rfl hl.1 rfl (Nat.le_of_ble_eq_true rfl) dX13_listener_7 ⟨(Nat.le_of_ble_eq_true rfl), (Nat.le_of_ble_eq_true rfl)⟩ (fun v6 H locs hpo hM hS => ?_)
  have hpo10 := hpo
  have hq_v6 := tk_rng v6
  refine lv_icmp_ne (tgt := 21) hx hb dX13_listener_10 (by decide) (fun c9 => ?_) (fun c9 => ?_)
  · have hc12 : ¬ (v3.toInt = v6.toInt) := fun h9 => c9 ((fi_eq rfl rfl).mpr h9)
    refine lv_aload_n hx hb dX13_listener_21 rfl (lv_at hl 0 rfl) ?_
    refine lv_iconst (v := 0) hx hb dX13_listener_22 (by decide) ?_
    have hk_0 : (0 : Int32).toInt = 0 := by decide
    refine mz_Vj (As := [.int 0]) (rest := []) ⟨hx, hb, hml, hown, hts⟩ hK hM hS (k_X13_inDuel_0 l D cy ld ad am hD _ _ _ _ g12 hg_0) ⟨callB_of 1 hts (wl_in mw_1046) rfl rfl rfl (htl _ mw_5) (htl _ mw_1043) hd_yX13_inDuel ⟨(Nat.le_of_ble_eq_true rfl), (Nat.le_of_ble_eq_true rfl)⟩, htl _ mw_1044, htl _ mw_1045⟩ rfl hl.1 rfl (Nat.le_of_ble_eq_true rfl) dX13_listener_23 ⟨(Nat.le_of_ble_eq_true rfl), (Nat.le_of_ble_eq_true rfl)⟩ (fun v13 H locs hpo hM hS => ?_)
    have hpo14 := hpo
    have hq_v13 := tk_rng v13
    exact mz_jret (v := v13) hx hb hr rfl hlocks ⟨(by omega), (by omega), (by omega), (by omega), (by omega), (by omega)⟩ hM hS dX13_listener_26
  · have hc12 : v3.toInt = v6.toInt := (fi_eq rfl rfl).mp c9
    refine lv_aload_n hx hb dX13_listener_13 rfl (lv_at hl 0 rfl) ?_
    refine lv_iconst (v := 1) hx hb dX13_listener_14 (by decide) ?_
    have hk_1 : (1 : Int32).toInt = 1 := by decide
    refine mz_Vj (As := [.int 1]) (rest := []) ⟨hx, hb, hml, hown, hts⟩ hK hM hS (k_X13_inDuel_1 l D cy ld ad am hD _ _ _ _ g13 hg_1) ⟨callB_of 1 hts (wl_in mw_1046) rfl rfl rfl (htl _ mw_5) (htl _ mw_1043) hd_yX13_inDuel ⟨(Nat.le_of_ble_eq_true rfl), (Nat.le_of_ble_eq_true rfl)⟩, htl _ mw_1044, htl _ mw_1045⟩ rfl hl.1 rfl (Nat.le_of_ble_eq_true rfl) dX13_listener_15 ⟨(Nat.le_of_ble_eq_true rfl), (Nat.le_of_ble_eq_true rfl)⟩ (fun v16 H locs hpo hM hS => ?_)
    have hpo17 := hpo
    have hq_v16 := tk_rng v16
    refine lv_goto (tgt := 26) hx hb dX13_listener_18 (by decide) ?_
    exact mz_jret (v := v16) hx hb hr rfl hlocks ⟨(by omega), (by omega), (by omega), (by omega), (by omega), (by omega)⟩ hM hS dX13_listener_26
end
section
set_option maxHeartbeats 4000000 in
set_option maxRecDepth 100000 in
theorem k_X13_inDuel_3 (l : Launch) (D : va_G) (cy : Nat → ClassId) (ld ad : Nat → Nat) (am : Nat) (hD : mz_D ad am) (Fa : Nat → Int32) (Ga : Nat → Int64) (Ra : Nat → Nat → Int32) (Sa : Nat → Nat → Int64) (g0 : Int32) (hg_0 : Ra 3 15 = g0) : Met l yX13_inDuel (wl yX13_inDuel cX13_inDuel 2 (some .int)) ({ frames := 3, cells := 0, slots := 0, locals := 140 }) (mz_p D cy ld ad am Fa Ga Ra Sa [.ref am, .int 3]) (mz_j D cy ad am Fa Ga Ra Sa (fun r => (-1) * g0.toInt + r.toInt = 0)) 0 0 (mz_W ad am) := by
  refine mz_met (y := yX13_inDuel) (cc := cX13_inDuel) (maxL := 2) (ret := (some .int)) (av := [.ref am, .int 3]) _ (by decide) (Nat.le_of_ble_eq_true rfl) ?_
  intro p e s m args below meth c hx hb hr hml hts htl hown hlocks hK H locs hM hS ls hl
  have hown : s.vm.findClass RX13 = some m.cls := hown
  have hl : lv_has ls 2 [(0, .ref am), (1, .int 3)] := hl
  have hq_g0 := tk_rng g0
  refine lv_aload_n hx hb dX13_inDuel_0 rfl (lv_at hl 0 rfl) ?_
  refine mz_getR hx hb htl hown hK hM 3 (Nat.le_of_ble_eq_true rfl) (Nat.le_of_ble_eq_true rfl) (htl _ mw_188) (fun _ h9 => h9) dX13_inDuel_1 ?_
  refine lv_bipush (v := 12) hx hb dX13_inDuel_4 (by decide) ?_
  refine lv_iload_n hx hb dX13_inDuel_6 rfl (lv_at hl 1 rfl) ?_
  refine lv_iadd hx hb dX13_inDuel_7 ?_
  refine fx_ti (v := 15) (by decide) ?_
  refine mz_iald hx hb hK hM 3 (Nat.le_of_ble_eq_true rfl) rfl (nn := 5560) rfl (I := 15) (by decide) (by decide) (by decide) dX13_inDuel_8 (fun v9 e9 => ?_)
  refine fx_ti (v := g0) (e9.symm.trans (show Ra 3 (15 : Int32).toNatClampNeg = _ from hg_0)) ?_
  exact mz_jret (v := g0) hx hb hr rfl hlocks (by omega) hM hS dX13_inDuel_9
end
section
set_option maxHeartbeats 4000000 in
set_option maxRecDepth 100000 in
theorem k_X13_inDuel_5 (l : Launch) (D : va_G) (cy : Nat → ClassId) (ld ad : Nat → Nat) (am : Nat) (hD : mz_D ad am) (Fa : Nat → Int32) (Ga : Nat → Int64) (Ra : Nat → Nat → Int32) (Sa : Nat → Nat → Int64) (g0 : Int32) (hg_0 : Ra 3 17 = g0) : Met l yX13_inDuel (wl yX13_inDuel cX13_inDuel 2 (some .int)) ({ frames := 3, cells := 0, slots := 0, locals := 140 }) (mz_p D cy ld ad am Fa Ga Ra Sa [.ref am, .int 5]) (mz_j D cy ad am Fa Ga Ra Sa (fun r => (-1) * g0.toInt + r.toInt = 0)) 0 0 (mz_W ad am) := by
  refine mz_met (y := yX13_inDuel) (cc := cX13_inDuel) (maxL := 2) (ret := (some .int)) (av := [.ref am, .int 5]) _ (by decide) (Nat.le_of_ble_eq_true rfl) ?_
  intro p e s m args below meth c hx hb hr hml hts htl hown hlocks hK H locs hM hS ls hl
  have hown : s.vm.findClass RX13 = some m.cls := hown
  have hl : lv_has ls 2 [(0, .ref am), (1, .int 5)] := hl
  have hq_g0 := tk_rng g0
  refine lv_aload_n hx hb dX13_inDuel_0 rfl (lv_at hl 0 rfl) ?_
  refine mz_getR hx hb htl hown hK hM 3 (Nat.le_of_ble_eq_true rfl) (Nat.le_of_ble_eq_true rfl) (htl _ mw_188) (fun _ h9 => h9) dX13_inDuel_1 ?_
  refine lv_bipush (v := 12) hx hb dX13_inDuel_4 (by decide) ?_
  refine lv_iload_n hx hb dX13_inDuel_6 rfl (lv_at hl 1 rfl) ?_
  refine lv_iadd hx hb dX13_inDuel_7 ?_
  refine fx_ti (v := 17) (by decide) ?_
  refine mz_iald hx hb hK hM 3 (Nat.le_of_ble_eq_true rfl) rfl (nn := 5560) rfl (I := 17) (by decide) (by decide) (by decide) dX13_inDuel_8 (fun v9 e9 => ?_)
  refine fx_ti (v := g0) (e9.symm.trans (show Ra 3 (17 : Int32).toNatClampNeg = _ from hg_0)) ?_
  exact mz_jret (v := g0) hx hb hr rfl hlocks (by omega) hM hS dX13_inDuel_9
end
section
theorem hd_yX13_listener : yX13_listener.cls ≠ "java/lang/invoke/MethodHandle" ∧ yX13_listener.cls ≠ "java/lang/invoke/VarHandle" ∧ (parseMethodDescriptor yX13_listener.desc).map (fun d => d.parameters.length) = some 0 := by decide +kernel
theorem dX13_layVerse_0 : decode cX13_layVerse 0 = .ok (.aload_n 0, 1) := by decide +kernel
theorem dX13_layVerse_1 : decode cX13_layVerse 1 = .ok (.iconst 4, 1) := by decide +kernel
theorem dX13_layVerse_2 : decode cX13_layVerse 2 = .ok (.invokevirtual 194, 3) := by decide +kernel
theorem dX13_layVerse_5 : decode cX13_layVerse 5 = .ok (.istore_n 2, 1) := by decide +kernel
theorem dX13_layVerse_6 : decode cX13_layVerse 6 = .ok (.aload_n 0, 1) := by decide +kernel
theorem dX13_layVerse_7 : decode cX13_layVerse 7 = .ok (.invokevirtual 431, 3) := by decide +kernel
theorem dX13_layVerse_10 : decode cX13_layVerse 10 = .ok (.istore_n 3, 1) := by decide +kernel
theorem dX13_layVerse_11 : decode cX13_layVerse 11 = .ok (.aload_n 0, 1) := by decide +kernel
theorem dX13_layVerse_12 : decode cX13_layVerse 12 = .ok (.iload_n 1, 1) := by decide +kernel
theorem dX13_layVerse_13 : decode cX13_layVerse 13 = .ok (.aload_n 0, 1) := by decide +kernel
theorem dX13_layVerse_14 : decode cX13_layVerse 14 = .ok (.iload_n 2, 1) := by decide +kernel
theorem dX13_layVerse_15 : decode cX13_layVerse 15 = .ok (.iconst 1, 1) := by decide +kernel
theorem dX13_layVerse_16 : decode cX13_layVerse 16 = .ok (.invokevirtual 207, 3) := by decide +kernel
theorem dX13_layVerse_19 : decode cX13_layVerse 19 = .ok (.aload_n 0, 1) := by decide +kernel
theorem dX13_layVerse_20 : decode cX13_layVerse 20 = .ok (.getfield 13, 3) := by decide +kernel
theorem dX13_layVerse_23 : decode cX13_layVerse 23 = .ok (.bipush 58, 2) := by decide +kernel
theorem dX13_layVerse_25 : decode cX13_layVerse 25 = .ok (.iconst 2, 1) := by decide +kernel
theorem dX13_layVerse_26 : decode cX13_layVerse 26 = .ok (.iload_n 1, 1) := by decide +kernel
theorem dX13_layVerse_27 : decode cX13_layVerse 27 = .ok (.imul, 1) := by decide +kernel
theorem dX13_layVerse_28 : decode cX13_layVerse 28 = .ok (.iadd, 1) := by decide +kernel
theorem dX13_layVerse_29 : decode cX13_layVerse 29 = .ok (.iconst 1, 1) := by decide +kernel
theorem dX13_layVerse_30 : decode cX13_layVerse 30 = .ok (.iadd, 1) := by decide +kernel
theorem dX13_layVerse_31 : decode cX13_layVerse 31 = .ok (.iaload, 1) := by decide +kernel
theorem dX13_layVerse_32 : decode cX13_layVerse 32 = .ok (.aload_n 0, 1) := by decide +kernel
theorem dX13_layVerse_33 : decode cX13_layVerse 33 = .ok (.iconst 5, 1) := by decide +kernel
theorem dX13_layVerse_34 : decode cX13_layVerse 34 = .ok (.invokevirtual 194, 3) := by decide +kernel
theorem dX13_layVerse_45 : decode cX13_layVerse 45 = .ok (.aload_n 0, 1) := by decide +kernel
theorem dX13_layVerse_46 : decode cX13_layVerse 46 = .ok (.iconst 3, 1) := by decide +kernel
theorem dX13_layVerse_47 : decode cX13_layVerse 47 = .ok (.invokevirtual 194, 3) := by decide +kernel
theorem dX13_layVerse_50 : decode cX13_layVerse 50 = .ok (.aload_n 0, 1) := by decide +kernel
theorem dX13_layVerse_51 : decode cX13_layVerse 51 = .ok (.iload_n 3, 1) := by decide +kernel
theorem dX13_layVerse_52 : decode cX13_layVerse 52 = .ok (.iconst 0, 1) := by decide +kernel
theorem dX13_layVerse_53 : decode cX13_layVerse 53 = .ok (.invokevirtual 207, 3) := by decide +kernel
theorem dX13_layVerse_56 : decode cX13_layVerse 56 = .ok (.aload_n 0, 1) := by decide +kernel
theorem dX13_layVerse_57 : decode cX13_layVerse 57 = .ok (.iload_n 3, 1) := by decide +kernel
theorem dX13_layVerse_58 : decode cX13_layVerse 58 = .ok (.iconst 1, 1) := by decide +kernel
theorem dX13_layVerse_59 : decode cX13_layVerse 59 = .ok (.invokevirtual 207, 3) := by decide +kernel
theorem dX13_layVerse_62 : decode cX13_layVerse 62 = .ok (.invokevirtual 425, 3) := by decide +kernel
theorem dX13_layVerse_65 : decode cX13_layVerse 65 = .ok (.return_, 1) := by decide +kernel
theorem dX13_layVerse_37 : decode cX13_layVerse 37 = .ok (.if_icmp .ne 7, 3) := by decide +kernel
theorem dX13_layVerse_44 : decode cX13_layVerse 44 = .ok (.iconst 0, 1) := by decide +kernel
theorem dX13_layVerse_40 : decode cX13_layVerse 40 = .ok (.iconst 1, 1) := by decide +kernel
theorem dX13_layVerse_41 : decode cX13_layVerse 41 = .ok (.goto 4, 3) := by decide +kernel
set_option maxHeartbeats 4000000 in
set_option maxRecDepth 100000 in
theorem k_X13_layVerse (l : Launch) (D : va_G) (cy : Nat → ClassId) (ld ad : Nat → Nat) (am : Nat) (hD : mz_D ad am) (Fa : Nat → Int32) (Ga : Nat → Int64) (Ra : Nat → Nat → Int32) (Sa : Nat → Nat → Int64) (p1 : Int32) (hIF : mz_IF true Fa) (hIG : mz_IG Ga) (hIR : mz_IR [] true Ra) (hp_0 : 0 ≤ p1.toInt) (hp_1 : p1.toInt ≤ 9) : Met l yX13_layVerse (wl yX13_layVerse cX13_layVerse 4 none) ({ frames := 5, cells := 0, slots := 0, locals := 280 }) (mz_p D cy ld ad am Fa Ga Ra Sa [.ref am, .int p1]) (mz_w D cy ad am (fun F G R S => mz_IF true F ∧ mz_IG G ∧ mz_IR [] true R ∧ (∀ k : Nat, k ∉ ([] : List Nat) → F k = Fa k) ∧ (∀ k : Nat, k ∉ ([] : List Nat) → R k = Ra k) ∧ (∀ k : Nat, k ∉ ([] : List Nat) → G k = Ga k))) 0 0 (mz_W ad am) := by
  refine mz_met (y := yX13_layVerse) (cc := cX13_layVerse) (maxL := 4) (ret := none) (av := [.ref am, .int p1]) _ (by decide) (Nat.le_of_ble_eq_true rfl) ?_
  intro p e s m args below meth c hx hb hr hml hts htl hown hlocks hK H locs hM hS ls hl
  have hown : s.vm.findClass RX13 = some m.cls := hown
  have hl : lv_has ls 4 [(0, .ref am), (1, .int p1)] := hl
  have hr_p1 := tk_rng p1
  refine lv_aload_n hx hb dX13_layVerse_0 rfl (lv_at hl 0 rfl) ?_
  refine lv_iconst (v := 4) hx hb dX13_layVerse_1 (by decide) ?_
  obtain ⟨v2, hf1⟩ : ∃ z : Int32, Ra 3 16 = z := ⟨_, rfl⟩
  have hq_v2 := tk_rng v2
  have hr_v2 : (-1) ≤ v2.toInt ∧ v2.toInt ≤ 7 := by have h9 := hIR.d; unfold dO at h9; rw [hf1] at h9; omega
  have hk_4 : (4 : Int32).toInt = 4 := by decide
  refine mz_Vj (As := [.int 4]) (rest := []) ⟨hx, hb, hml, hown, hts⟩ hK hM hS (k_X13_inDuel_4 l D cy ld ad am hD _ _ _ _ v2 hf1) ⟨callB_of 1 hts (wl_in mw_1046) rfl rfl rfl (htl _ mw_5) (htl _ mw_1043) hd_yX13_inDuel ⟨(Nat.le_of_ble_eq_true rfl), (Nat.le_of_ble_eq_true rfl)⟩, htl _ mw_1044, htl _ mw_1045⟩ rfl hl.1 rfl (Nat.le_of_ble_eq_true rfl) dX13_layVerse_2 ⟨(Nat.le_of_ble_eq_true rfl), (Nat.le_of_ble_eq_true rfl)⟩ (fun v3 H locs hpo hM hS => ?_)
  have hpo4 := hpo
  have hq_v3 := tk_rng v3
  refine lv_istore_n (lv' := [(2, .int v3), (0, .ref am), (1, .int p1)]) hx hb dX13_layVerse_5 rfl hl (by decide) rfl (fun ls hl => ?_)
  refine lv_aload_n hx hb dX13_layVerse_6 rfl (lv_at hl 1 rfl) ?_
  obtain ⟨v10, hf6⟩ : ∃ z : Int32, Ra 3 12 = z := ⟨_, rfl⟩
  have hq_v10 := tk_rng v10
  have hr_v10 : (-1) ≤ v10.toInt ∧ v10.toInt ≤ 7 := by have h9 := hIR.d; unfold dO at h9; rw [hf6] at h9; omega
  have hti_10 : v10.toInt ≠ -1 → v2.toInt ≠ -1 := by have h9 := hIR.d.2.2.2.2.2; rw [hf6, hf1] at h9; exact fun h8 => (h9 h8).2.2
  obtain ⟨v13, hf12⟩ : ∃ z : Int32, Ra 3 13 = z := ⟨_, rfl⟩
  have hq_v13 := tk_rng v13
  have hr_v13 : (-1) ≤ v13.toInt ∧ v13.toInt ≤ 7 := by have h9 := hIR.d; unfold dO at h9; rw [hf12] at h9; omega
  have hti_13 : v10.toInt ≠ -1 → v13.toInt ≠ -1 := by have h9 := hIR.d.2.2.2.2.2; rw [hf6, hf12] at h9; exact fun h8 => (h9 h8).1
  refine mz_Vj (As := []) (rest := []) ⟨hx, hb, hml, hown, hts⟩ hK hM hS (k_X13_listener l D cy ld ad am hD _ _ _ _ v10 v13 v2 (hIF.weak) hIG hIR hf6 hf12 hf1) ⟨callB_of 0 hts (wl_in mw_1095) rfl rfl rfl (htl _ mw_5) (htl _ mw_1092) hd_yX13_listener ⟨(Nat.le_of_ble_eq_true rfl), (Nat.le_of_ble_eq_true rfl)⟩, htl _ mw_1093, htl _ mw_1094⟩ rfl hl.1 rfl (Nat.le_of_ble_eq_true rfl) dX13_layVerse_7 ⟨(Nat.le_of_ble_eq_true rfl), (Nat.le_of_ble_eq_true rfl)⟩ (fun v15 H locs hpo hM hS => ?_)
  obtain ⟨hpo16, hpo17, hpo18, hpo19, hpo20, hpo21⟩ := hpo
  have hq_v15 := tk_rng v15
  refine lv_istore_n (lv' := [(3, .int v15), (2, .int v3), (0, .ref am), (1, .int p1)]) hx hb dX13_layVerse_10 rfl hl (by decide) rfl (fun ls hl => ?_)
  refine lv_aload_n hx hb dX13_layVerse_11 rfl (lv_at hl 2 rfl) ?_
  refine lv_iload_n hx hb dX13_layVerse_12 rfl (lv_at hl 3 rfl) ?_
  refine lv_aload_n hx hb dX13_layVerse_13 rfl (lv_at hl 2 rfl) ?_
  refine lv_iload_n hx hb dX13_layVerse_14 rfl (lv_at hl 1 rfl) ?_
  refine lv_iconst (v := 1) hx hb dX13_layVerse_15 (by decide) ?_
  have hk_1 : (1 : Int32).toInt = 1 := by decide
  refine mz_Vj (As := [.int v3, .int 1]) (rest := [.int p1, .ref am]) ⟨hx, hb, hml, hown, hts⟩ hK hM hS (k_X13_ofSinger_1 l D cy ld ad am hD _ _ _ _ v3 (hIF.weak) hIG hIR (by omega) (by omega)) ⟨callB_of 2 hts (wl_in mw_324) rfl rfl rfl (htl _ mw_5) (htl _ mw_321) hd_yX13_ofSinger ⟨(Nat.le_of_ble_eq_true rfl), (Nat.le_of_ble_eq_true rfl)⟩, htl _ mw_322, htl _ mw_323⟩ rfl hl.1 rfl (Nat.le_of_ble_eq_true rfl) dX13_layVerse_16 ⟨(Nat.le_of_ble_eq_true rfl), (Nat.le_of_ble_eq_true rfl)⟩ (fun v23 H locs hpo hM hS => ?_)
  have hq_v23 := tk_rng v23
  refine lv_aload_n hx hb dX13_layVerse_19 rfl (lv_at hl 2 rfl) ?_
  refine mz_getR hx hb htl hown hK hM 3 (Nat.le_of_ble_eq_true rfl) (Nat.le_of_ble_eq_true rfl) (htl _ mw_188) (fun _ h9 => h9) dX13_layVerse_20 ?_
  refine lv_bipush (v := 58) hx hb dX13_layVerse_23 (by decide) ?_
  refine lv_iconst (v := 2) hx hb dX13_layVerse_25 (by decide) ?_
  refine lv_iload_n hx hb dX13_layVerse_26 rfl (lv_at hl 3 rfl) ?_
  refine lv_imul hx hb dX13_layVerse_27 ?_
  refine tk_mul (show (2 : Int32).toInt = 2 by decide) rfl (by omega) (by omega) (fun v25 h_v25 => ?_)
  refine lv_iadd hx hb dX13_layVerse_28 ?_
  refine tk_add (show (58 : Int32).toInt = 58 by decide) rfl (by omega) (by omega) (fun v26 h_v26 => ?_)
  refine lv_iconst (v := 1) hx hb dX13_layVerse_29 (by decide) ?_
  refine lv_iadd hx hb dX13_layVerse_30 ?_
  refine tk_add rfl (show (1 : Int32).toInt = 1 by decide) (by omega) (by omega) (fun v27 h_v27 => ?_)
  refine mz_iald hx hb hK hM 3 (Nat.le_of_ble_eq_true rfl) rfl (nn := 5560) rfl rfl (by omega) (by omega) dX13_layVerse_31 (fun v28 e_v28 => ?_)
  have hq_v28 := tk_rng v28
  refine lv_aload_n hx hb dX13_layVerse_32 rfl (lv_at hl 2 rfl) ?_
  refine lv_iconst (v := 5) hx hb dX13_layVerse_33 (by decide) ?_
  obtain ⟨v30, hf29⟩ : ∃ z : Int32, Ra 3 17 = z := ⟨_, rfl⟩
  have hq_v30 := tk_rng v30
  have hk_5 : (5 : Int32).toInt = 5 := by decide
  refine mz_Vj (As := [.int 5]) (rest := [.int v28, .int v23, .int p1, .ref am]) ⟨hx, hb, hml, hown, hts⟩ hK hM hS (k_X13_inDuel_5 l D cy ld ad am hD _ _ _ _ v30 hf29) ⟨callB_of 1 hts (wl_in mw_1046) rfl rfl rfl (htl _ mw_5) (htl _ mw_1043) hd_yX13_inDuel ⟨(Nat.le_of_ble_eq_true rfl), (Nat.le_of_ble_eq_true rfl)⟩, htl _ mw_1044, htl _ mw_1045⟩ rfl hl.1 rfl (Nat.le_of_ble_eq_true rfl) dX13_layVerse_34 ⟨(Nat.le_of_ble_eq_true rfl), (Nat.le_of_ble_eq_true rfl)⟩ (fun v31 H locs hpo hM hS => ?_)
  have hpo32 := hpo
  have hq_v31 := tk_rng v31
  have hj37 : ∀ (v36 : Int32), (0 ≤ v36.toInt) → (v36.toInt ≤ 1) → ∀ ls : Array Slot, lv_has ls 4 [(3, .int v15), (0, .ref am)] → W p l e ({ frames := 5, cells := 0, slots := 0, locals := 280 }) s m args below meth c H locs 0 0 (MQ below (mz_w D cy ad am (fun F G R S => mz_IF true F ∧ mz_IG G ∧ mz_IR [] true R ∧ (∀ k : Nat, k ∉ ([] : List Nat) → F k = Fa k) ∧ (∀ k : Nat, k ∉ ([] : List Nat) → R k = Ra k) ∧ (∀ k : Nat, k ∉ ([] : List Nat) → G k = Ga k))) args s 0 0 (mz_W ad am)) (F0 m 45 ls [.int v36, .int v23, .int p1, .ref am]) := by
    intro v36 hq0_j37 hq1_j37 ls hl
    have hti_37 : v10.toInt ≠ -1 → v13.toInt ≠ -1 := by have h9 := hIR.d.2.2.2.2.2; rw [hf6, hf12] at h9; exact fun h8 => (h9 h8).1
    have hti_38 : v10.toInt ≠ -1 → v2.toInt ≠ -1 := by have h9 := hIR.d.2.2.2.2.2; rw [hf6, hf1] at h9; exact fun h8 => (h9 h8).2.2
    refine lv_aload_n hx hb dX13_layVerse_45 rfl (lv_at hl 1 rfl) ?_
    refine lv_iconst (v := 3) hx hb dX13_layVerse_46 (by decide) ?_
    obtain ⟨v41, hf40⟩ : ∃ z : Int32, Ra 3 15 = z := ⟨_, rfl⟩
    have hq_v41 := tk_rng v41
    have hr_v41 : (-1) ≤ v41.toInt ∧ v41.toInt ≤ 11 := by have h9 := hIR.d; unfold dO at h9; rw [hf40] at h9; omega
    have hti_41 : v10.toInt ≠ -1 → v41.toInt ≠ -1 := by have h9 := hIR.d.2.2.2.2.2; rw [hf6, hf40] at h9; exact fun h8 => (h9 h8).2.1
    have hk_3 : (3 : Int32).toInt = 3 := by decide
    refine mz_Vj (As := [.int 3]) (rest := [.int v36, .int v23, .int p1, .ref am]) ⟨hx, hb, hml, hown, hts⟩ hK hM hS (k_X13_inDuel_3 l D cy ld ad am hD _ _ _ _ v41 hf40) ⟨callB_of 1 hts (wl_in mw_1046) rfl rfl rfl (htl _ mw_5) (htl _ mw_1043) hd_yX13_inDuel ⟨(Nat.le_of_ble_eq_true rfl), (Nat.le_of_ble_eq_true rfl)⟩, htl _ mw_1044, htl _ mw_1045⟩ rfl hl.1 rfl (Nat.le_of_ble_eq_true rfl) dX13_layVerse_47 ⟨(Nat.le_of_ble_eq_true rfl), (Nat.le_of_ble_eq_true rfl)⟩ (fun v43 H locs hpo hM hS => ?_)
    have hpo44 := hpo
    have hq_v43 := tk_rng v43
    refine lv_aload_n hx hb dX13_layVerse_50 rfl (lv_at hl 1 rfl) ?_
    refine lv_iload_n hx hb dX13_layVerse_51 rfl (lv_at hl 0 rfl) ?_
    refine lv_iconst (v := 0) hx hb dX13_layVerse_52 (by decide) ?_
    have hk_0 : (0 : Int32).toInt = 0 := by decide
    refine mz_Vj (As := [.int v15, .int 0]) (rest := [.int v43, .int v36, .int v23, .int p1, .ref am]) ⟨hx, hb, hml, hown, hts⟩ hK hM hS (k_X13_ofSinger_0 l D cy ld ad am hD _ _ _ _ v15 (hIF.weak) hIG hIR (by omega) (by omega)) ⟨callB_of 2 hts (wl_in mw_324) rfl rfl rfl (htl _ mw_5) (htl _ mw_321) hd_yX13_ofSinger ⟨(Nat.le_of_ble_eq_true rfl), (Nat.le_of_ble_eq_true rfl)⟩, htl _ mw_322, htl _ mw_323⟩ rfl hl.1 rfl (Nat.le_of_ble_eq_true rfl) dX13_layVerse_53 ⟨(Nat.le_of_ble_eq_true rfl), (Nat.le_of_ble_eq_true rfl)⟩ (fun v46 H locs hpo hM hS => ?_)
    have hq_v46 := tk_rng v46
    refine lv_aload_n hx hb dX13_layVerse_56 rfl (lv_at hl 1 rfl) ?_
    refine lv_iload_n hx hb dX13_layVerse_57 rfl (lv_at hl 0 rfl) ?_
    refine lv_iconst (v := 1) hx hb dX13_layVerse_58 (by decide) ?_
    have hk_1 : (1 : Int32).toInt = 1 := by decide
    refine mz_Vj (As := [.int v15, .int 1]) (rest := [.int v46, .int v43, .int v36, .int v23, .int p1, .ref am]) ⟨hx, hb, hml, hown, hts⟩ hK hM hS (k_X13_ofSinger_1 l D cy ld ad am hD _ _ _ _ v15 (hIF.weak) hIG hIR (by omega) (by omega)) ⟨callB_of 2 hts (wl_in mw_324) rfl rfl rfl (htl _ mw_5) (htl _ mw_321) hd_yX13_ofSinger ⟨(Nat.le_of_ble_eq_true rfl), (Nat.le_of_ble_eq_true rfl)⟩, htl _ mw_322, htl _ mw_323⟩ rfl hl.1 rfl (Nat.le_of_ble_eq_true rfl) dX13_layVerse_59 ⟨(Nat.le_of_ble_eq_true rfl), (Nat.le_of_ble_eq_true rfl)⟩ (fun v48 H locs hpo hM hS => ?_)
    have hq_v48 := tk_rng v48
    refine mz_Vv (As := [.int p1, .int v23, .int v36, .int v43, .int v46, .int v48]) (rest := []) ⟨hx, hb, hml, hown, hts⟩ hK hM hS (k_X13_setSung l D cy ld ad am hD _ _ _ _ p1 v23 v36 v43 v46 v48 hIF hIG hIR (by omega) (by omega)) ⟨callB_of 6 hts (wl_in mw_1099) rfl rfl rfl (htl _ mw_5) (htl _ mw_1096) hd_yX13_setSung ⟨(Nat.le_of_ble_eq_true rfl), (Nat.le_of_ble_eq_true rfl)⟩, htl _ mw_1097, htl _ mw_1098⟩ rfl hl.1 rfl (Nat.le_of_ble_eq_true rfl) dX13_layVerse_62 ⟨(Nat.le_of_ble_eq_true rfl), (Nat.le_of_ble_eq_true rfl)⟩ (fun H locs F G R S hpo hM hS => ?_)
    obtain ⟨hIF, hIG, hIR, hfr9, hrr9, hgr9⟩ := hpo
    have hFF := mz_fr (K := []) (Fa := Fa) hfr9 (fun _ _ => rfl) (by decide)
    have hRR := mz_fr (K := []) (Fa := Ra) hrr9 (fun _ _ => rfl) (by decide)
    have hGG := mz_fr (K := []) (Fa := Ga) hgr9 (fun _ _ => rfl) (by decide)
    have hf1 : R 3 16 = _ := (congrFun (hrr9 3 (by decide)) 16).trans hf1
    have hf6 : R 3 12 = _ := (congrFun (hrr9 3 (by decide)) 12).trans hf6
    have hf12 : R 3 13 = _ := (congrFun (hrr9 3 (by decide)) 13).trans hf12
    have hf29 : R 3 17 = _ := (congrFun (hrr9 3 (by decide)) 17).trans hf29
    have hf40 : R 3 15 = _ := (congrFun (hrr9 3 (by decide)) 15).trans hf40
    exact mz_vret hx hb hr hlocks ⟨hIF, hIG, hIR, hFF, hRR, hGG⟩ hM hS dX13_layVerse_65
  refine lv_icmp_ne (tgt := 44) hx hb dX13_layVerse_37 (by decide) (fun c9 => ?_) (fun c9 => ?_)
  · have hc34 : ¬ (v28.toInt = v31.toInt) := fun h9 => c9 ((fi_eq rfl rfl).mpr h9)
    refine lv_iconst (v := 0) hx hb dX13_layVerse_44 (by decide) ?_
    have hk_0 : (0 : Int32).toInt = 0 := by decide
    exact hj37 0 (by omega) (by omega) _ (lv_sub hl [0, 2] rfl)
  · have hc34 : v28.toInt = v31.toInt := (fi_eq rfl rfl).mp c9
    refine lv_iconst (v := 1) hx hb dX13_layVerse_40 (by decide) ?_
    refine lv_goto (tgt := 45) hx hb dX13_layVerse_41 (by decide) ?_
    have hk_1 : (1 : Int32).toInt = 1 := by decide
    exact hj37 1 (by omega) (by omega) _ (lv_sub hl [0, 2] rfl)
end
section
theorem hd_yX13_isDuel : yX13_isDuel.cls ≠ "java/lang/invoke/MethodHandle" ∧ yX13_isDuel.cls ≠ "java/lang/invoke/VarHandle" ∧ (parseMethodDescriptor yX13_isDuel.desc).map (fun d => d.parameters.length) = some 0 := by decide +kernel
theorem hd_yX13_layVerse : yX13_layVerse.cls ≠ "java/lang/invoke/MethodHandle" ∧ yX13_layVerse.cls ≠ "java/lang/invoke/VarHandle" ∧ (parseMethodDescriptor yX13_layVerse.desc).map (fun d => d.parameters.length) = some 1 := by decide +kernel
theorem hd_yX13_isBarredSet : yX13_isBarredSet.cls ≠ "java/lang/invoke/MethodHandle" ∧ yX13_isBarredSet.cls ≠ "java/lang/invoke/VarHandle" ∧ (parseMethodDescriptor yX13_isBarredSet.desc).map (fun d => d.parameters.length) = some 0 := by decide +kernel
theorem hd_yX13_tiresSet : yX13_tiresSet.cls ≠ "java/lang/invoke/MethodHandle" ∧ yX13_tiresSet.cls ≠ "java/lang/invoke/VarHandle" ∧ (parseMethodDescriptor yX13_tiresSet.desc).map (fun d => d.parameters.length) = some 0 := by decide +kernel
theorem hd_yX13_lullsSet : yX13_lullsSet.cls ≠ "java/lang/invoke/MethodHandle" ∧ yX13_lullsSet.cls ≠ "java/lang/invoke/VarHandle" ∧ (parseMethodDescriptor yX13_lullsSet.desc).map (fun d => d.parameters.length) = some 0 := by decide +kernel
theorem dX13_asks_0 : decode cX13_asks 0 = .ok (.aload_n 0, 1) := by decide +kernel
theorem dX13_asks_1 : decode cX13_asks 1 = .ok (.iconst 0, 1) := by decide +kernel
theorem dX13_asks_2 : decode cX13_asks 2 = .ok (.putfield 170, 3) := by decide +kernel
theorem dX13_asks_5 : decode cX13_asks 5 = .ok (.aload_n 0, 1) := by decide +kernel
theorem dX13_asks_6 : decode cX13_asks 6 = .ok (.invokevirtual 434, 3) := by decide +kernel
theorem dX13_asks_9 : decode cX13_asks 9 = .ok (.ifCond .eq 23, 3) := by decide +kernel
theorem dX13_asks_32 : decode cX13_asks 32 = .ok (.iconst (-1), 1) := by decide +kernel
theorem dX13_asks_33 : decode cX13_asks 33 = .ok (.ireturn, 1) := by decide +kernel
theorem dX13_asks_12 : decode cX13_asks 12 = .ok (.aload_n 0, 1) := by decide +kernel
theorem dX13_asks_13 : decode cX13_asks 13 = .ok (.iload_n 1, 1) := by decide +kernel
theorem dX13_asks_14 : decode cX13_asks 14 = .ok (.invokevirtual 216, 3) := by decide +kernel
theorem dX13_asks_17 : decode cX13_asks 17 = .ok (.ifCond .eq 15, 3) := by decide +kernel
theorem dX13_asks_20 : decode cX13_asks 20 = .ok (.iload_n 2, 1) := by decide +kernel
theorem dX13_asks_21 : decode cX13_asks 21 = .ok (.i2l, 1) := by decide +kernel
theorem dX13_asks_22 : decode cX13_asks 22 = .ok (.lconst 0, 1) := by decide +kernel
theorem dX13_asks_23 : decode cX13_asks 23 = .ok (.ldc2_w 415, 3) := by decide +kernel
theorem dX13_asks_26 : decode cX13_asks 26 = .ok (.invokestatic 190, 3) := by decide +kernel
theorem dX13_asks_29 : decode cX13_asks 29 = .ok (.ifCond .ne 5, 3) := by decide +kernel
theorem dX13_asks_34 : decode cX13_asks 34 = .ok (.aload_n 0, 1) := by decide +kernel
theorem dX13_asks_35 : decode cX13_asks 35 = .ok (.iload_n 1, 1) := by decide +kernel
theorem dX13_asks_36 : decode cX13_asks 36 = .ok (.invokevirtual 437, 3) := by decide +kernel
theorem dX13_asks_39 : decode cX13_asks 39 = .ok (.iload_n 2, 1) := by decide +kernel
theorem dX13_asks_40 : decode cX13_asks 40 = .ok (.ifCond .ne 10, 3) := by decide +kernel
theorem dX13_asks_50 : decode cX13_asks 50 = .ok (.iload_n 2, 1) := by decide +kernel
theorem dX13_asks_51 : decode cX13_asks 51 = .ok (.iconst 1, 1) := by decide +kernel
theorem dX13_asks_52 : decode cX13_asks 52 = .ok (.if_icmp .ne 10, 3) := by decide +kernel
theorem dX13_asks_62 : decode cX13_asks 62 = .ok (.aload_n 0, 1) := by decide +kernel
theorem dX13_asks_63 : decode cX13_asks 63 = .ok (.invokevirtual 446, 3) := by decide +kernel
theorem dX13_asks_66 : decode cX13_asks 66 = .ok (.ifCond .eq 7, 3) := by decide +kernel
theorem dX13_asks_73 : decode cX13_asks 73 = .ok (.iconst 0, 1) := by decide +kernel
theorem dX13_asks_74 : decode cX13_asks 74 = .ok (.ireturn, 1) := by decide +kernel
theorem dX13_asks_69 : decode cX13_asks 69 = .ok (.iconst 1, 1) := by decide +kernel
theorem dX13_asks_70 : decode cX13_asks 70 = .ok (.goto 4, 3) := by decide +kernel
theorem dX13_asks_55 : decode cX13_asks 55 = .ok (.aload_n 0, 1) := by decide +kernel
theorem dX13_asks_56 : decode cX13_asks 56 = .ok (.invokevirtual 443, 3) := by decide +kernel
theorem dX13_asks_59 : decode cX13_asks 59 = .ok (.goto 15, 3) := by decide +kernel
theorem dX13_asks_43 : decode cX13_asks 43 = .ok (.aload_n 0, 1) := by decide +kernel
theorem dX13_asks_44 : decode cX13_asks 44 = .ok (.invokevirtual 440, 3) := by decide +kernel
theorem dX13_asks_47 : decode cX13_asks 47 = .ok (.goto 27, 3) := by decide +kernel
set_option maxHeartbeats 4000000 in
set_option maxRecDepth 100000 in
theorem k_X13_asks (l : Launch) (D : va_G) (cy : Nat → ClassId) (ld ad : Nat → Nat) (am : Nat) (hD : mz_D ad am) (Fa : Nat → Int32) (Ga : Nat → Int64) (Ra : Nat → Nat → Int32) (Sa : Nat → Nat → Int64) (p1 : Int32) (p2 : Int32) (hIF : mz_IF true Fa) (hIG : mz_IG Ga) (hIR : mz_IR [] true Ra) : Met l yX13_asks (wl yX13_asks cX13_asks 3 (some .int)) ({ frames := 9, cells := 0, slots := 0, locals := 560 }) (mz_p D cy ld ad am Fa Ga Ra Sa [.ref am, .int p1, .int p2]) (mz_i D cy ad am (fun r F G R S => mz_IF true F ∧ mz_IG G ∧ mz_IR [] true R ∧ (∀ k : Nat, k ∉ ([0, 34, 38] : List Nat) → F k = Fa k) ∧ (∀ k : Nat, k ∉ ([] : List Nat) → R k = Ra k) ∧ (∀ k : Nat, k ∉ ([39, 40] : List Nat) → G k = Ga k) ∧ (-1) ≤ r.toInt ∧ r.toInt ≤ 999)) 0 0 (mz_W ad am) := by
  refine mz_met (y := yX13_asks) (cc := cX13_asks) (maxL := 3) (ret := (some .int)) (av := [.ref am, .int p1, .int p2]) _ (by decide) (Nat.le_of_ble_eq_true rfl) ?_
  intro p e s m args below meth c hx hb hr hml hts htl hown hlocks hK H locs hM hS ls hl
  have hown : s.vm.findClass RX13 = some m.cls := hown
  have hl : lv_has ls 3 [(0, .ref am), (1, .int p1), (2, .int p2)] := hl
  have hr_p1 := tk_rng p1
  have hr_p2 := tk_rng p2
  refine lv_aload_n hx hb dX13_asks_0 rfl (lv_at hl 0 rfl) ?_
  refine lv_iconst (v := 0) hx hb dX13_asks_1 (by decide) ?_
  have hk_0 : (0 : Int32).toInt = 0 := by decide
  refine mz_putI (ty := .int) (x := 0) hx hb htl hown hK hD hM hS 0 (Nat.le_of_ble_eq_true rfl) rfl (htl _ mw_286) (fun _ h9 => h9) rfl (tyX13_ok 0 (by decide)) rfl rfl dX13_asks_2 (fun H locs F hM hS hf9 hj9 => ?_)
  have hIF := hIF.put hf9 hj9 (tk_rng _).1 (tk_rng _).2 (by decide)
  have hFF := mz_frp (K := [0, 34, 38]) (Fa := Fa) hj9 (fun _ _ => rfl) (by decide)
  have hf2 := hf9
  refine lv_aload_n hx hb dX13_asks_5 rfl (lv_at hl 0 rfl) ?_
  obtain ⟨v4, hf3⟩ : ∃ z : Int32, Ra 3 12 = z := ⟨_, rfl⟩
  have hq_v4 := tk_rng v4
  have hr_v4 : (-1) ≤ v4.toInt ∧ v4.toInt ≤ 7 := by have h9 := hIR.d; unfold dO at h9; rw [hf3] at h9; omega
  refine mz_Vj (As := []) (rest := []) ⟨hx, hb, hml, hown, hts⟩ hK hM hS (k_X13_isDuel l D cy ld ad am hD _ _ _ _ v4 (hIF.weak) hIG hIR hf3) ⟨callB_of 0 hts (wl_in mw_1071) rfl rfl rfl (htl _ mw_5) (htl _ mw_1068) hd_yX13_isDuel ⟨(Nat.le_of_ble_eq_true rfl), (Nat.le_of_ble_eq_true rfl)⟩, htl _ mw_1069, htl _ mw_1070⟩ rfl hl.1 rfl (Nat.le_of_ble_eq_true rfl) dX13_asks_6 ⟨(Nat.le_of_ble_eq_true rfl), (Nat.le_of_ble_eq_true rfl)⟩ (fun v5 H locs hpo hM hS => ?_)
  obtain ⟨hpo6, hpo10, hpo11, hpo12, hpo13, hpo14⟩ := hpo
  have hq_v5 := tk_rng v5
  refine lv_if_eq (tgt := 32) hx hb dX13_asks_9 (by decide) (fun c9 => ?_) (fun c9 => ?_)
  · have hc16 : v5.toInt = 0 := (fi_eq rfl (show (0 : Int32).toInt = 0 by decide)).mp c9
    have hwk_17 : v4.toInt ≤ (-1) := by omega
    refine lv_iconst (v := (-1)) hx hb dX13_asks_32 (by decide) ?_
    have hk_m1 : ((-1) : Int32).toInt = (-1) := by decide
    exact mz_iret (v := (-1)) hx hb hr rfl hlocks ⟨hIF, hIG, hIR, hFF, (fun _ _ => rfl), (fun _ _ => rfl), (by omega), (by omega)⟩ hM hS dX13_asks_33
  · have hc16 : ¬ (v5.toInt = 0) := fun h9 => c9 ((fi_eq rfl (show (0 : Int32).toInt = 0 by decide)).mpr h9)
    have hwk_18 : 0 ≤ v4.toInt := by omega
    refine lv_aload_n hx hb dX13_asks_12 rfl (lv_at hl 0 rfl) ?_
    refine lv_iload_n hx hb dX13_asks_13 rfl (lv_at hl 1 rfl) ?_
    refine mz_Vj (As := [.int p1]) (rest := []) ⟨hx, hb, hml, hown, hts⟩ hK hM hS (k_X13_isVerse l D cy ld ad am hD _ _ _ _ p1 (hIF.weak) hIG hIR) ⟨callB_of 1 hts (wl_in mw_360) rfl rfl rfl (htl _ mw_5) (htl _ mw_357) hd_yX13_isVerse ⟨(Nat.le_of_ble_eq_true rfl), (Nat.le_of_ble_eq_true rfl)⟩, htl _ mw_358, htl _ mw_359⟩ rfl hl.1 rfl (Nat.le_of_ble_eq_true rfl) dX13_asks_14 ⟨(Nat.le_of_ble_eq_true rfl), (Nat.le_of_ble_eq_true rfl)⟩ (fun v19 H locs hpo hM hS => ?_)
    obtain ⟨hpo20, hpo21, hpo22, hpo23, hpo24⟩ := hpo
    have hq_v19 := tk_rng v19
    refine lv_if_eq (tgt := 32) hx hb dX13_asks_17 (by decide) (fun c9 => ?_) (fun c9 => ?_)
    · have hc26 : v19.toInt = 0 := (fi_eq rfl (show (0 : Int32).toInt = 0 by decide)).mp c9
      refine lv_iconst (v := (-1)) hx hb dX13_asks_32 (by decide) ?_
      have hk_m1 : ((-1) : Int32).toInt = (-1) := by decide
      exact mz_iret (v := (-1)) hx hb hr rfl hlocks ⟨hIF, hIG, hIR, hFF, (fun _ _ => rfl), (fun _ _ => rfl), (by omega), (by omega)⟩ hM hS dX13_asks_33
    · have hc26 : ¬ (v19.toInt = 0) := fun h9 => c9 ((fi_eq rfl (show (0 : Int32).toInt = 0 by decide)).mpr h9)
      have hwk_27 : 0 ≤ p1.toInt ∧ p1.toInt ≤ 9 := by omega
      refine lv_iload_n hx hb dX13_asks_20 rfl (lv_at hl 2 rfl) ?_
      obtain ⟨w28, e_w28, h_w28⟩ : ∃ z : Int64, p2.toInt64 = z ∧ z.toInt = p2.toInt := ⟨_, rfl, fl_w _⟩
      refine lv_i2l (v := w28) hx hb dX13_asks_21 e_w28 ?_
      refine lv_lconst (v := 0) hx hb dX13_asks_22 (by decide) ?_
      refine lv_ldc2 hx hb hown (htl _ mw_1122) dX13_asks_23 ?_
      have hk_0 : (0 : Int64).toInt = 0 := by decide
      have hk_2 : (2 : Int64).toInt = 2 := by decide
      refine mz_Sj (As := [.long w28, .long 0, .long 2]) (rest := []) ⟨hx, hb, hml, hown, hts⟩ hK hM hS (k_X13_in l D cy ld ad am hD _ _ _ _ w28 0 2) ⟨callB_of 3 hts (wl_in mw_292) rfl rfl rfl (htl _ mw_5) (htl _ mw_290) hd_yX13_in ⟨(Nat.le_of_ble_eq_true rfl), (Nat.le_of_ble_eq_true rfl)⟩, htl _ mw_291⟩ rfl hl.1 rfl (Nat.le_of_ble_eq_true rfl) dX13_asks_26 ⟨(Nat.le_of_ble_eq_true rfl), (Nat.le_of_ble_eq_true rfl)⟩ (fun v29 H locs hpo hM hS => ?_)
      obtain ⟨hpo30, hpo31, hpo32, hpo33, hpo34, hpo35⟩ := hpo
      have hq_v29 := tk_rng v29
      refine lv_if_ne (tgt := 34) hx hb dX13_asks_29 (by decide) (fun c9 => ?_) (fun c9 => ?_)
      · have hc37 : ¬ (v29.toInt = 0) := fun h9 => c9 ((fi_eq rfl (show (0 : Int32).toInt = 0 by decide)).mpr h9)
        have hwk_38 : 0 ≤ w28.toInt ∧ w28.toInt ≤ 2 := by omega
        refine lv_aload_n hx hb dX13_asks_34 rfl (lv_at hl 0 rfl) ?_
        refine lv_iload_n hx hb dX13_asks_35 rfl (lv_at hl 1 rfl) ?_
        refine mz_Vv (As := [.int p1]) (rest := []) ⟨hx, hb, hml, hown, hts⟩ hK hM hS (k_X13_layVerse l D cy ld ad am hD _ _ _ _ p1 hIF hIG hIR (by omega) (by omega)) ⟨callB_of 1 hts (wl_in mw_1091) rfl rfl rfl (htl _ mw_5) (htl _ mw_1088) hd_yX13_layVerse ⟨(Nat.le_of_ble_eq_true rfl), (Nat.le_of_ble_eq_true rfl)⟩, htl _ mw_1089, htl _ mw_1090⟩ rfl hl.1 rfl (Nat.le_of_ble_eq_true rfl) dX13_asks_36 ⟨(Nat.le_of_ble_eq_true rfl), (Nat.le_of_ble_eq_true rfl)⟩ (fun H locs F G R S hpo hM hS => ?_)
        obtain ⟨hIF, hIG, hIR, hfr9, hrr9, hgr9⟩ := hpo
        have hFF := mz_fr (K := [0, 34, 38]) (Fa := Fa) hfr9 hFF (by decide)
        have hRR := mz_fr (K := []) (Fa := Ra) hrr9 (fun _ _ => rfl) (by decide)
        have hGG := mz_fr (K := [39, 40]) (Fa := Ga) hgr9 (fun _ _ => rfl) (by decide)
        have hf2 := (hfr9 0 (by decide)).trans hf2
        have hf3 : R 3 12 = _ := (congrFun (hrr9 3 (by decide)) 12).trans hf3
        refine lv_iload_n hx hb dX13_asks_39 rfl (lv_at hl 2 rfl) ?_
        refine lv_if_ne (tgt := 50) hx hb dX13_asks_40 (by decide) (fun c9 => ?_) (fun c9 => ?_)
        · have hc40 : ¬ (p2.toInt = 0) := fun h9 => c9 ((fi_eq rfl (show (0 : Int32).toInt = 0 by decide)).mpr h9)
          refine lv_iload_n hx hb dX13_asks_50 rfl (lv_at hl 2 rfl) ?_
          refine lv_iconst (v := 1) hx hb dX13_asks_51 (by decide) ?_
          refine lv_icmp_ne (tgt := 62) hx hb dX13_asks_52 (by decide) (fun c9 => ?_) (fun c9 => ?_)
          · have hc41 : ¬ (p2.toInt = 1) := fun h9 => c9 ((fi_eq rfl (show (1 : Int32).toInt = 1 by decide)).mpr h9)
            refine lv_aload_n hx hb dX13_asks_62 rfl (lv_at hl 0 rfl) ?_
            refine mz_Vi (As := []) (rest := []) ⟨hx, hb, hml, hown, hts⟩ hK hM hS (k_X13_isBarredSet l D cy ld ad am hD _ _ _ _ hIF hIG hIR) ⟨callB_of 0 hts (wl_in mw_1103) rfl rfl rfl (htl _ mw_5) (htl _ mw_1100) hd_yX13_isBarredSet ⟨(Nat.le_of_ble_eq_true rfl), (Nat.le_of_ble_eq_true rfl)⟩, htl _ mw_1101, htl _ mw_1102⟩ rfl hl.1 rfl (Nat.le_of_ble_eq_true rfl) dX13_asks_63 ⟨(Nat.le_of_ble_eq_true rfl), (Nat.le_of_ble_eq_true rfl)⟩ (fun v42 H locs F G R S hpo hM hS => ?_)
            obtain ⟨hIF, hIG, hIR, hfr9, hrr9, hgr9, hpo43, hpo44, hpo45, hpo46⟩ := hpo
            have hq_v42 := tk_rng v42
            have hFF := mz_fr (K := [0, 34, 38]) (Fa := Fa) hfr9 hFF (by decide)
            have hRR := mz_fr (K := []) (Fa := Ra) hrr9 hRR (by decide)
            have hGG := mz_fr (K := [39, 40]) (Fa := Ga) hgr9 hGG (by decide)
            have hf2 := (hfr9 0 (by decide)).trans hf2
            have hf3 : R 3 12 = _ := (congrFun (hrr9 3 (by decide)) 12).trans hf3
            refine lv_if_eq (tgt := 73) hx hb dX13_asks_66 (by decide) (fun c9 => ?_) (fun c9 => ?_)
            · have hc48 : v42.toInt = 0 := (fi_eq rfl (show (0 : Int32).toInt = 0 by decide)).mp c9
              refine lv_iconst (v := 0) hx hb dX13_asks_73 (by decide) ?_
              have hk_0 : (0 : Int32).toInt = 0 := by decide
              exact mz_iret (v := 0) hx hb hr rfl hlocks ⟨hIF, hIG, hIR, hFF, hRR, hGG, (by omega), (by omega)⟩ hM hS dX13_asks_74
            · have hc48 : ¬ (v42.toInt = 0) := fun h9 => c9 ((fi_eq rfl (show (0 : Int32).toInt = 0 by decide)).mpr h9)
              refine lv_iconst (v := 1) hx hb dX13_asks_69 (by decide) ?_
              refine lv_goto (tgt := 74) hx hb dX13_asks_70 (by decide) ?_
              have hk_1 : (1 : Int32).toInt = 1 := by decide
              exact mz_iret (v := 1) hx hb hr rfl hlocks ⟨hIF, hIG, hIR, hFF, hRR, hGG, (by omega), (by omega)⟩ hM hS dX13_asks_74
          · have hc41 : p2.toInt = 1 := (fi_eq rfl (show (1 : Int32).toInt = 1 by decide)).mp c9
            refine lv_aload_n hx hb dX13_asks_55 rfl (lv_at hl 0 rfl) ?_
            refine mz_Vi (As := []) (rest := []) ⟨hx, hb, hml, hown, hts⟩ hK hM hS (k_X13_tiresSet l D cy ld ad am hD _ _ _ _ hIF hIG hIR) ⟨callB_of 0 hts (wl_in mw_1129) rfl rfl rfl (htl _ mw_5) (htl _ mw_1126) hd_yX13_tiresSet ⟨(Nat.le_of_ble_eq_true rfl), (Nat.le_of_ble_eq_true rfl)⟩, htl _ mw_1127, htl _ mw_1128⟩ rfl hl.1 rfl (Nat.le_of_ble_eq_true rfl) dX13_asks_56 ⟨(Nat.le_of_ble_eq_true rfl), (Nat.le_of_ble_eq_true rfl)⟩ (fun v49 H locs F G R S hpo hM hS => ?_)
            obtain ⟨hIF, hIG, hIR, hfr9, hrr9, hgr9, hpo50, hpo51⟩ := hpo
            have hq_v49 := tk_rng v49
            have hFF := mz_fr (K := [0, 34, 38]) (Fa := Fa) hfr9 hFF (by decide)
            have hRR := mz_fr (K := []) (Fa := Ra) hrr9 hRR (by decide)
            have hGG := mz_fr (K := [39, 40]) (Fa := Ga) hgr9 hGG (by decide)
            have hf2 := (hfr9 0 (by decide)).trans hf2
            have hf3 : R 3 12 = _ := (congrFun (hrr9 3 (by decide)) 12).trans hf3
            refine lv_goto (tgt := 74) hx hb dX13_asks_59 (by decide) ?_
            exact mz_iret (v := v49) hx hb hr rfl hlocks ⟨hIF, hIG, hIR, hFF, hRR, hGG, (by omega), (by omega)⟩ hM hS dX13_asks_74
        · have hc40 : p2.toInt = 0 := (fi_eq rfl (show (0 : Int32).toInt = 0 by decide)).mp c9
          refine lv_aload_n hx hb dX13_asks_43 rfl (lv_at hl 0 rfl) ?_
          refine mz_Vi (As := []) (rest := []) ⟨hx, hb, hml, hown, hts⟩ hK hM hS (k_X13_lullsSet l D cy ld ad am hD _ _ _ _ hIF hIG hIR) ⟨callB_of 0 hts (wl_in mw_1121) rfl rfl rfl (htl _ mw_5) (htl _ mw_1118) hd_yX13_lullsSet ⟨(Nat.le_of_ble_eq_true rfl), (Nat.le_of_ble_eq_true rfl)⟩, htl _ mw_1119, htl _ mw_1120⟩ rfl hl.1 rfl (Nat.le_of_ble_eq_true rfl) dX13_asks_44 ⟨(Nat.le_of_ble_eq_true rfl), (Nat.le_of_ble_eq_true rfl)⟩ (fun v53 H locs F G R S hpo hM hS => ?_)
          obtain ⟨hIF, hIG, hIR, hfr9, hrr9, hgr9, hpo54, hpo55⟩ := hpo
          have hq_v53 := tk_rng v53
          have hFF := mz_fr (K := [0, 34, 38]) (Fa := Fa) hfr9 hFF (by decide)
          have hRR := mz_fr (K := []) (Fa := Ra) hrr9 hRR (by decide)
          have hGG := mz_fr (K := [39, 40]) (Fa := Ga) hgr9 hGG (by decide)
          have hf2 := (hfr9 0 (by decide)).trans hf2
          have hf3 : R 3 12 = _ := (congrFun (hrr9 3 (by decide)) 12).trans hf3
          refine lv_goto (tgt := 74) hx hb dX13_asks_47 (by decide) ?_
          exact mz_iret (v := v53) hx hb hr rfl hlocks ⟨hIF, hIG, hIR, hFF, hRR, hGG, (by omega), (by omega)⟩ hM hS dX13_asks_74
      · have hc37 : v29.toInt = 0 := (fi_eq rfl (show (0 : Int32).toInt = 0 by decide)).mp c9
        refine lv_iconst (v := (-1)) hx hb dX13_asks_32 (by decide) ?_
        have hk_m1 : ((-1) : Int32).toInt = (-1) := by decide
        exact mz_iret (v := (-1)) hx hb hr rfl hlocks ⟨hIF, hIG, hIR, hFF, (fun _ _ => rfl), (fun _ _ => rfl), (by omega), (by omega)⟩ hM hS dX13_asks_33
end
section
theorem hd_yX13_wakesOf : yX13_wakesOf.cls ≠ "java/lang/invoke/MethodHandle" ∧ yX13_wakesOf.cls ≠ "java/lang/invoke/VarHandle" ∧ (parseMethodDescriptor yX13_wakesOf.desc).map (fun d => d.parameters.length) = some 1 := by decide +kernel
theorem dX13_wakes_0 : decode cX13_wakes 0 = .ok (.aload_n 0, 1) := by decide +kernel
theorem dX13_wakes_1 : decode cX13_wakes 1 = .ok (.iconst 0, 1) := by decide +kernel
theorem dX13_wakes_2 : decode cX13_wakes 2 = .ok (.putfield 170, 3) := by decide +kernel
theorem dX13_wakes_5 : decode cX13_wakes 5 = .ok (.aload_n 0, 1) := by decide +kernel
theorem dX13_wakes_6 : decode cX13_wakes 6 = .ok (.iload_n 1, 1) := by decide +kernel
theorem dX13_wakes_7 : decode cX13_wakes 7 = .ok (.invokevirtual 201, 3) := by decide +kernel
theorem dX13_wakes_10 : decode cX13_wakes 10 = .ok (.ifCond .eq 11, 3) := by decide +kernel
theorem dX13_wakes_21 : decode cX13_wakes 21 = .ok (.iconst (-1), 1) := by decide +kernel
theorem dX13_wakes_22 : decode cX13_wakes 22 = .ok (.ireturn, 1) := by decide +kernel
theorem dX13_wakes_13 : decode cX13_wakes 13 = .ok (.aload_n 0, 1) := by decide +kernel
theorem dX13_wakes_14 : decode cX13_wakes 14 = .ok (.iload_n 1, 1) := by decide +kernel
theorem dX13_wakes_15 : decode cX13_wakes 15 = .ok (.invokevirtual 449, 3) := by decide +kernel
theorem dX13_wakes_18 : decode cX13_wakes 18 = .ok (.goto 4, 3) := by decide +kernel
set_option maxHeartbeats 4000000 in
set_option maxRecDepth 100000 in
theorem k_X13_wakes (l : Launch) (D : va_G) (cy : Nat → ClassId) (ld ad : Nat → Nat) (am : Nat) (hD : mz_D ad am) (Fa : Nat → Int32) (Ga : Nat → Int64) (Ra : Nat → Nat → Int32) (Sa : Nat → Nat → Int64) (p1 : Int32) (hIF : mz_IF true Fa) (hIG : mz_IG Ga) (hIR : mz_IR [] true Ra) : Met l yX13_wakes (wl yX13_wakes cX13_wakes 2 (some .int)) ({ frames := 9, cells := 0, slots := 0, locals := 560 }) (mz_p D cy ld ad am Fa Ga Ra Sa [.ref am, .int p1]) (mz_i D cy ad am (fun r F G R S => mz_IF true F ∧ mz_IG G ∧ mz_IR [] true R ∧ (∀ k : Nat, k ∉ ([0, 34, 38] : List Nat) → F k = Fa k) ∧ (∀ k : Nat, k ∉ ([] : List Nat) → R k = Ra k) ∧ (∀ k : Nat, k ∉ ([39, 40] : List Nat) → G k = Ga k) ∧ (-1) ≤ r.toInt ∧ r.toInt ≤ 999)) 0 0 (mz_W ad am) := by
  refine mz_met (y := yX13_wakes) (cc := cX13_wakes) (maxL := 2) (ret := (some .int)) (av := [.ref am, .int p1]) _ (by decide) (Nat.le_of_ble_eq_true rfl) ?_
  intro p e s m args below meth c hx hb hr hml hts htl hown hlocks hK H locs hM hS ls hl
  have hown : s.vm.findClass RX13 = some m.cls := hown
  have hl : lv_has ls 2 [(0, .ref am), (1, .int p1)] := hl
  have hr_p1 := tk_rng p1
  refine lv_aload_n hx hb dX13_wakes_0 rfl (lv_at hl 0 rfl) ?_
  refine lv_iconst (v := 0) hx hb dX13_wakes_1 (by decide) ?_
  have hk_0 : (0 : Int32).toInt = 0 := by decide
  refine mz_putI (ty := .int) (x := 0) hx hb htl hown hK hD hM hS 0 (Nat.le_of_ble_eq_true rfl) rfl (htl _ mw_286) (fun _ h9 => h9) rfl (tyX13_ok 0 (by decide)) rfl rfl dX13_wakes_2 (fun H locs F hM hS hf9 hj9 => ?_)
  have hIF := hIF.put hf9 hj9 (tk_rng _).1 (tk_rng _).2 (by decide)
  have hFF := mz_frp (K := [0, 34, 38]) (Fa := Fa) hj9 (fun _ _ => rfl) (by decide)
  have hf2 := hf9
  refine lv_aload_n hx hb dX13_wakes_5 rfl (lv_at hl 0 rfl) ?_
  refine lv_iload_n hx hb dX13_wakes_6 rfl (lv_at hl 1 rfl) ?_
  refine mz_Vj (As := [.int p1]) (rest := []) ⟨hx, hb, hml, hown, hts⟩ hK hM hS (k_X13_isSinger l D cy ld ad am hD _ _ _ _ p1 (hIF.weak) hIG hIR) ⟨callB_of 1 hts (wl_in mw_320) rfl rfl rfl (htl _ mw_5) (htl _ mw_317) hd_yX13_isSinger ⟨(Nat.le_of_ble_eq_true rfl), (Nat.le_of_ble_eq_true rfl)⟩, htl _ mw_318, htl _ mw_319⟩ rfl hl.1 rfl (Nat.le_of_ble_eq_true rfl) dX13_wakes_7 ⟨(Nat.le_of_ble_eq_true rfl), (Nat.le_of_ble_eq_true rfl)⟩ (fun v3 H locs hpo hM hS => ?_)
  obtain ⟨hpo4, hpo5, hpo6, hpo10, hpo11⟩ := hpo
  have hq_v3 := tk_rng v3
  refine lv_if_eq (tgt := 21) hx hb dX13_wakes_10 (by decide) (fun c9 => ?_) (fun c9 => ?_)
  · have hc13 : v3.toInt = 0 := (fi_eq rfl (show (0 : Int32).toInt = 0 by decide)).mp c9
    refine lv_iconst (v := (-1)) hx hb dX13_wakes_21 (by decide) ?_
    have hk_m1 : ((-1) : Int32).toInt = (-1) := by decide
    exact mz_iret (v := (-1)) hx hb hr rfl hlocks ⟨hIF, hIG, hIR, hFF, (fun _ _ => rfl), (fun _ _ => rfl), (by omega), (by omega)⟩ hM hS dX13_wakes_22
  · have hc13 : ¬ (v3.toInt = 0) := fun h9 => c9 ((fi_eq rfl (show (0 : Int32).toInt = 0 by decide)).mpr h9)
    have hwk_14 : 0 ≤ p1.toInt ∧ p1.toInt ≤ 7 := by omega
    refine lv_aload_n hx hb dX13_wakes_13 rfl (lv_at hl 0 rfl) ?_
    refine lv_iload_n hx hb dX13_wakes_14 rfl (lv_at hl 1 rfl) ?_
    refine mz_Vi (As := [.int p1]) (rest := []) ⟨hx, hb, hml, hown, hts⟩ hK hM hS (k_X13_wakesOf l D cy ld ad am hD _ _ _ _ p1 hIF hIG hIR (by omega) (by omega)) ⟨callB_of 1 hts (wl_in mw_1153) rfl rfl rfl (htl _ mw_5) (htl _ mw_1150) hd_yX13_wakesOf ⟨(Nat.le_of_ble_eq_true rfl), (Nat.le_of_ble_eq_true rfl)⟩, htl _ mw_1151, htl _ mw_1152⟩ rfl hl.1 rfl (Nat.le_of_ble_eq_true rfl) dX13_wakes_15 ⟨(Nat.le_of_ble_eq_true rfl), (Nat.le_of_ble_eq_true rfl)⟩ (fun v15 H locs F G R S hpo hM hS => ?_)
    obtain ⟨hIF, hIG, hIR, hfr9, hrr9, hgr9, hpo16, hpo17⟩ := hpo
    have hq_v15 := tk_rng v15
    have hFF := mz_fr (K := [0, 34, 38]) (Fa := Fa) hfr9 hFF (by decide)
    have hRR := mz_fr (K := []) (Fa := Ra) hrr9 (fun _ _ => rfl) (by decide)
    have hGG := mz_fr (K := [39, 40]) (Fa := Ga) hgr9 (fun _ _ => rfl) (by decide)
    have hf2 := (hfr9 0 (by decide)).trans hf2
    refine lv_goto (tgt := 22) hx hb dX13_wakes_18 (by decide) ?_
    exact mz_iret (v := v15) hx hb hr rfl hlocks ⟨hIF, hIG, hIR, hFF, hRR, hGG, (by omega), (by omega)⟩ hM hS dX13_wakes_22
end
