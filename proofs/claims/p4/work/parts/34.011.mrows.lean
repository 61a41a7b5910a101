section
theorem dX13_back_0 : decode cX13_back 0 = .ok (.aload_n 0, 1) := by decide +kernel
theorem dX13_back_1 : decode cX13_back 1 = .ok (.iconst 0, 1) := by decide +kernel
theorem dX13_back_2 : decode cX13_back 2 = .ok (.putfield 170, 3) := by decide +kernel
theorem dX13_back_5 : decode cX13_back 5 = .ok (.iload_n 1, 1) := by decide +kernel
theorem dX13_back_6 : decode cX13_back 6 = .ok (.i2l, 1) := by decide +kernel
theorem dX13_back_7 : decode cX13_back 7 = .ok (.lconst 0, 1) := by decide +kernel
theorem dX13_back_8 : decode cX13_back 8 = .ok (.lconst 1, 1) := by decide +kernel
theorem dX13_back_9 : decode cX13_back 9 = .ok (.invokestatic 190, 3) := by decide +kernel
theorem dX13_back_12 : decode cX13_back 12 = .ok (.ifCond .ne 9, 3) := by decide +kernel
theorem dX13_back_21 : decode cX13_back 21 = .ok (.aload_n 0, 1) := by decide +kernel
theorem dX13_back_22 : decode cX13_back 22 = .ok (.getfield 19, 3) := by decide +kernel
theorem dX13_back_25 : decode cX13_back 25 = .ok (.iload_n 1, 1) := by decide +kernel
theorem dX13_back_26 : decode cX13_back 26 = .ok (.baload, 1) := by decide +kernel
theorem dX13_back_27 : decode cX13_back 27 = .ok (.ifCond .ne 10, 3) := by decide +kernel
theorem dX13_back_37 : decode cX13_back 37 = .ok (.iconst 0, 1) := by decide +kernel
theorem dX13_back_38 : decode cX13_back 38 = .ok (.istore_n 2, 1) := by decide +kernel
theorem dX13_back_39 : decode cX13_back 39 = .ok (.iload_n 2, 1) := by decide +kernel
theorem dX13_back_40 : decode cX13_back 40 = .ok (.sipush 5560, 3) := by decide +kernel
theorem dX13_back_43 : decode cX13_back 43 = .ok (.if_icmp .ge 27, 3) := by decide +kernel
theorem dX13_back_70 : decode cX13_back 70 = .ok (.aload_n 0, 1) := by decide +kernel
theorem dX13_back_71 : decode cX13_back 71 = .ok (.iconst 0, 1) := by decide +kernel
theorem dX13_back_72 : decode cX13_back 72 = .ok (.putfield 176, 3) := by decide +kernel
theorem dX13_back_75 : decode cX13_back 75 = .ok (.aload_n 0, 1) := by decide +kernel
theorem dX13_back_76 : decode cX13_back 76 = .ok (.iconst 0, 1) := by decide +kernel
theorem dX13_back_77 : decode cX13_back 77 = .ok (.invokevirtual 183, 3) := by decide +kernel
theorem dX13_back_80 : decode cX13_back 80 = .ok (.ireturn, 1) := by decide +kernel
theorem dX13_back_46 : decode cX13_back 46 = .ok (.aload_n 0, 1) := by decide +kernel
theorem dX13_back_47 : decode cX13_back 47 = .ok (.getfield 13, 3) := by decide +kernel
theorem dX13_back_50 : decode cX13_back 50 = .ok (.iload_n 2, 1) := by decide +kernel
theorem dX13_back_51 : decode cX13_back 51 = .ok (.aload_n 0, 1) := by decide +kernel
theorem dX13_back_52 : decode cX13_back 52 = .ok (.getfield 16, 3) := by decide +kernel
theorem dX13_back_55 : decode cX13_back 55 = .ok (.sipush 5560, 3) := by decide +kernel
theorem dX13_back_58 : decode cX13_back 58 = .ok (.iload_n 1, 1) := by decide +kernel
theorem dX13_back_59 : decode cX13_back 59 = .ok (.imul, 1) := by decide +kernel
theorem dX13_back_60 : decode cX13_back 60 = .ok (.iload_n 2, 1) := by decide +kernel
theorem dX13_back_61 : decode cX13_back 61 = .ok (.iadd, 1) := by decide +kernel
theorem dX13_back_62 : decode cX13_back 62 = .ok (.iaload, 1) := by decide +kernel
theorem dX13_back_63 : decode cX13_back 63 = .ok (.iastore, 1) := by decide +kernel
theorem dX13_back_64 : decode cX13_back 64 = .ok (.iinc 2 1, 3) := by decide +kernel
theorem dX13_back_67 : decode cX13_back 67 = .ok (.goto (-28), 3) := by decide +kernel
theorem dX13_back_30 : decode cX13_back 30 = .ok (.aload_n 0, 1) := by decide +kernel
theorem dX13_back_31 : decode cX13_back 31 = .ok (.bipush (-2), 2) := by decide +kernel
theorem dX13_back_33 : decode cX13_back 33 = .ok (.invokevirtual 183, 3) := by decide +kernel
theorem dX13_back_36 : decode cX13_back 36 = .ok (.ireturn, 1) := by decide +kernel
theorem dX13_back_15 : decode cX13_back 15 = .ok (.aload_n 0, 1) := by decide +kernel
theorem dX13_back_16 : decode cX13_back 16 = .ok (.iconst (-1), 1) := by decide +kernel
theorem dX13_back_17 : decode cX13_back 17 = .ok (.invokevirtual 183, 3) := by decide +kernel
theorem dX13_back_20 : decode cX13_back 20 = .ok (.ireturn, 1) := by decide +kernel
end
section
theorem dX13_term_0 : decode cX13_term 0 = .ok (.aload_n 0, 1) := by decide +kernel
theorem dX13_term_1 : decode cX13_term 1 = .ok (.getfield 13, 3) := by decide +kernel
theorem dX13_term_4 : decode cX13_term 4 = .ok (.bipush 6, 2) := by decide +kernel
theorem dX13_term_6 : decode cX13_term 6 = .ok (.iload_n 1, 1) := by decide +kernel
theorem dX13_term_7 : decode cX13_term 7 = .ok (.iadd, 1) := by decide +kernel
theorem dX13_term_8 : decode cX13_term 8 = .ok (.iaload, 1) := by decide +kernel
theorem dX13_term_9 : decode cX13_term 9 = .ok (.ireturn, 1) := by decide +kernel
end
section
theorem dX13_inDuel_0 : decode cX13_inDuel 0 = .ok (.aload_n 0, 1) := by decide +kernel
theorem dX13_inDuel_1 : decode cX13_inDuel 1 = .ok (.getfield 13, 3) := by decide +kernel
theorem dX13_inDuel_4 : decode cX13_inDuel 4 = .ok (.bipush 12, 2) := by decide +kernel
theorem dX13_inDuel_6 : decode cX13_inDuel 6 = .ok (.iload_n 1, 1) := by decide +kernel
theorem dX13_inDuel_7 : decode cX13_inDuel 7 = .ok (.iadd, 1) := by decide +kernel
theorem dX13_inDuel_8 : decode cX13_inDuel 8 = .ok (.iaload, 1) := by decide +kernel
theorem dX13_inDuel_9 : decode cX13_inDuel 9 = .ok (.ireturn, 1) := by decide +kernel
set_option maxHeartbeats 4000000 in
set_option maxRecDepth 100000 in
theorem k_X13_inDuel (l : Launch) (D : va_G) (cy : Nat → ClassId) (ld ad : Nat → Nat) (am : Nat) (hD : mz_D ad am) (Fa : Nat → Int32) (Ga : Nat → Int64) (Ra : Nat → Nat → Int32) (Sa : Nat → Nat → Int64) (p1 : Int32) (hIF : mz_IF false Fa) (hIG : mz_IG Ga) (hIR : mz_IR [] true Ra) (hp_0 : 0 ≤ p1.toInt) (hp_1 : p1.toInt ≤ 5) : Met l yX13_inDuel (wl yX13_inDuel cX13_inDuel 2 (some .int)) ({ frames := 3, cells := 0, slots := 0, locals := 140 }) (mz_p D cy ld ad am Fa Ga Ra Sa [.ref am, .int p1]) (mz_j D cy ad am Fa Ga Ra Sa (fun r => True)) 0 0 (mz_W ad am) := by
  refine mz_met (y := yX13_inDuel) (cc := cX13_inDuel) (maxL := 2) (ret := (some .int)) (av := [.ref am, .int p1]) _ (by decide) (Nat.le_of_ble_eq_true rfl) ?_
  intro p e s m args below meth c hx hb hr hml hts htl hown hlocks hK H locs hM hS ls hl
  have hown : s.vm.findClass RX13 = some m.cls := hown
  have hl : lv_has ls 2 [(0, .ref am), (1, .int p1)] := hl
  have hr_p1 := tk_rng p1
  refine lv_aload_n hx hb dX13_inDuel_0 rfl (lv_at hl 0 rfl) ?_
  refine mz_getR hx hb htl hown hK hM 3 (Nat.le_of_ble_eq_true rfl) (Nat.le_of_ble_eq_true rfl) (htl _ mw_188) (fun _ h9 => h9) dX13_inDuel_1 ?_
  refine lv_bipush (v := 12) hx hb dX13_inDuel_4 (by decide) ?_
  refine lv_iload_n hx hb dX13_inDuel_6 rfl (lv_at hl 1 rfl) ?_
  refine lv_iadd hx hb dX13_inDuel_7 ?_
  refine tk_add (show (12 : Int32).toInt = 12 by decide) rfl (by omega) (by omega) (fun v1 h_v1 => ?_)
  refine mz_iald hx hb hK hM 3 (Nat.le_of_ble_eq_true rfl) rfl (nn := 5560) rfl rfl (by omega) (by omega) dX13_inDuel_8 (fun v2 e_v2 => ?_)
  have hq_v2 := tk_rng v2
  exact mz_jret (v := v2) hx hb hr rfl hlocks trivial hM hS dX13_inDuel_9
end
section
set_option maxHeartbeats 4000000 in
set_option maxRecDepth 100000 in
theorem k_X13_inDuel_0 (l : Launch) (D : va_G) (cy : Nat → ClassId) (ld ad : Nat → Nat) (am : Nat) (hD : mz_D ad am) (Fa : Nat → Int32) (Ga : Nat → Int64) (Ra : Nat → Nat → Int32) (Sa : Nat → Nat → Int64) (g0 : Int32) (hg_0 : Ra 3 12 = g0) : Met l yX13_inDuel (wl yX13_inDuel cX13_inDuel 2 (some .int)) ({ frames := 3, cells := 0, slots := 0, locals := 140 }) (mz_p D cy ld ad am Fa Ga Ra Sa [.ref am, .int 0]) (mz_j D cy ad am Fa Ga Ra Sa (fun r => (-1) * g0.toInt + r.toInt = 0)) 0 0 (mz_W ad am) := by
  refine mz_met (y := yX13_inDuel) (cc := cX13_inDuel) (maxL := 2) (ret := (some .int)) (av := [.ref am, .int 0]) _ (by decide) (Nat.le_of_ble_eq_true rfl) ?_
  intro p e s m args below meth c hx hb hr hml hts htl hown hlocks hK H locs hM hS ls hl
  have hown : s.vm.findClass RX13 = some m.cls := hown
  have hl : lv_has ls 2 [(0, .ref am), (1, .int 0)] := hl
  have hq_g0 := tk_rng g0
  refine lv_aload_n hx hb dX13_inDuel_0 rfl (lv_at hl 0 rfl) ?_
  refine mz_getR hx hb htl hown hK hM 3 (Nat.le_of_ble_eq_true rfl) (Nat.le_of_ble_eq_true rfl) (htl _ mw_188) (fun _ h9 => h9) dX13_inDuel_1 ?_
  refine lv_bipush (v := 12) hx hb dX13_inDuel_4 (by decide) ?_
  refine lv_iload_n hx hb dX13_inDuel_6 rfl (lv_at hl 1 rfl) ?_
  refine lv_iadd hx hb dX13_inDuel_7 ?_
  refine fx_ti (v := 12) (by decide) ?_
  refine mz_iald hx hb hK hM 3 (Nat.le_of_ble_eq_true rfl) rfl (nn := 5560) rfl (I := 12) (by decide) (by decide) (by decide) dX13_inDuel_8 (fun v9 e9 => ?_)
  refine fx_ti (v := g0) (e9.symm.trans (show Ra 3 (12 : Int32).toNatClampNeg = _ from hg_0)) ?_
  exact mz_jret (v := g0) hx hb hr rfl hlocks (by omega) hM hS dX13_inDuel_9
end
section
theorem hd_yX13_inDuel : yX13_inDuel.cls ≠ "java/lang/invoke/MethodHandle" ∧ yX13_inDuel.cls ≠ "java/lang/invoke/VarHandle" ∧ (parseMethodDescriptor yX13_inDuel.desc).map (fun d => d.parameters.length) = some 1 := by decide +kernel
theorem dX13_isDuel_0 : decode cX13_isDuel 0 = .ok (.aload_n 0, 1) := by decide +kernel
theorem dX13_isDuel_1 : decode cX13_isDuel 1 = .ok (.iconst 0, 1) := by decide +kernel
theorem dX13_isDuel_2 : decode cX13_isDuel 2 = .ok (.invokevirtual 194, 3) := by decide +kernel
theorem dX13_isDuel_5 : decode cX13_isDuel 5 = .ok (.iconst (-1), 1) := by decide +kernel
theorem dX13_isDuel_6 : decode cX13_isDuel 6 = .ok (.if_icmp .eq 7, 3) := by decide +kernel
theorem dX13_isDuel_13 : decode cX13_isDuel 13 = .ok (.iconst 0, 1) := by decide +kernel
theorem dX13_isDuel_14 : decode cX13_isDuel 14 = .ok (.ireturn, 1) := by decide +kernel
theorem dX13_isDuel_9 : decode cX13_isDuel 9 = .ok (.iconst 1, 1) := by decide +kernel
theorem dX13_isDuel_10 : decode cX13_isDuel 10 = .ok (.goto 4, 3) := by decide +kernel
set_option maxHeartbeats 4000000 in
set_option maxRecDepth 100000 in
theorem k_X13_isDuel (l : Launch) (D : va_G) (cy : Nat → ClassId) (ld ad : Nat → Nat) (am : Nat) (hD : mz_D ad am) (Fa : Nat → Int32) (Ga : Nat → Int64) (Ra : Nat → Nat → Int32) (Sa : Nat → Nat → Int64) (g12 : Int32) (hIF : mz_IF false Fa) (hIG : mz_IG Ga) (hIR : mz_IR [] true Ra) (hg_0 : Ra 3 12 = g12) : Met l yX13_isDuel (wl yX13_isDuel cX13_isDuel 1 (some .boolean)) ({ frames := 4, cells := 0, slots := 0, locals := 210 }) (mz_p D cy ld ad am Fa Ga Ra Sa [.ref am]) (mz_j D cy ad am Fa Ga Ra Sa (fun r => (1 ≤ r.toInt → 0 ≤ g12.toInt) ∧ (r.toInt ≤ 0 → g12.toInt ≤ (-1)) ∧ 0 ≤ r.toInt ∧ r.toInt ≤ 1 ∧ 0 ≤ r.toInt ∧ r.toInt ≤ 1)) 0 0 (mz_W ad am) := by
  refine mz_met (y := yX13_isDuel) (cc := cX13_isDuel) (maxL := 1) (ret := (some .boolean)) (av := [.ref am]) _ (by decide) (Nat.le_of_ble_eq_true rfl) ?_
  intro p e s m args below meth c hx hb hr hml hts htl hown hlocks hK H locs hM hS ls hl
  have hown : s.vm.findClass RX13 = some m.cls := hown
  have hl : lv_has ls 1 [(0, .ref am)] := hl
  have hq_g12 := tk_rng g12
  have hr_g12 : (-1) ≤ g12.toInt ∧ g12.toInt ≤ 7 := by have h9 := hIR.d; unfold dO at h9; rw [hg_0] at h9; omega
  refine lv_aload_n hx hb dX13_isDuel_0 rfl (lv_at hl 0 rfl) ?_
  refine lv_iconst (v := 0) hx hb dX13_isDuel_1 (by decide) ?_
  have hk_0 : (0 : Int32).toInt = 0 := by decide
  refine mz_Vj (As := [.int 0]) (rest := []) ⟨hx, hb, hml, hown, hts⟩ hK hM hS (k_X13_inDuel_0 l D cy ld ad am hD _ _ _ _ g12 hg_0) ⟨callB_of 1 hts (wl_in mw_1046) rfl rfl rfl (htl _ mw_5) (htl _ mw_1043) hd_yX13_inDuel ⟨(Nat.le_of_ble_eq_true rfl), (Nat.le_of_ble_eq_true rfl)⟩, htl _ mw_1044, htl _ mw_1045⟩ rfl hl.1 rfl (Nat.le_of_ble_eq_true rfl) dX13_isDuel_2 ⟨(Nat.le_of_ble_eq_true rfl), (Nat.le_of_ble_eq_true rfl)⟩ (fun v1 H locs hpo hM hS => ?_)
  have hpo2 := hpo
  have hq_v1 := tk_rng v1
  refine lv_iconst (v := (-1)) hx hb dX13_isDuel_5 (by decide) ?_
  refine lv_icmp_eq (tgt := 13) hx hb dX13_isDuel_6 (by decide) (fun c9 => ?_) (fun c9 => ?_)
  · have hc4 : v1.toInt = (-1) := (fi_eq rfl (show ((-1) : Int32).toInt = (-1) by decide)).mp c9
    refine lv_iconst (v := 0) hx hb dX13_isDuel_13 (by decide) ?_
    have hk_0 : (0 : Int32).toInt = 0 := by decide
    exact mz_jret (v := 0) hx hb hr rfl hlocks ⟨(by omega), (by omega), (by omega), (by omega), (by omega), (by omega)⟩ hM hS dX13_isDuel_14
  · have hc4 : ¬ (v1.toInt = (-1)) := fun h9 => c9 ((fi_eq rfl (show ((-1) : Int32).toInt = (-1) by decide)).mpr h9)
    refine lv_iconst (v := 1) hx hb dX13_isDuel_9 (by decide) ?_
    refine lv_goto (tgt := 14) hx hb dX13_isDuel_10 (by decide) ?_
    have hk_1 : (1 : Int32).toInt = 1 := by decide
    exact mz_jret (v := 1) hx hb hr rfl hlocks ⟨(by omega), (by omega), (by omega), (by omega), (by omega), (by omega)⟩ hM hS dX13_isDuel_14
end
section
theorem dX13_endDuel_0 : decode cX13_endDuel 0 = .ok (.iconst 0, 1) := by decide +kernel
theorem dX13_endDuel_1 : decode cX13_endDuel 1 = .ok (.istore_n 1, 1) := by decide +kernel
theorem dX13_endDuel_2 : decode cX13_endDuel 2 = .ok (.iload_n 1, 1) := by decide +kernel
theorem dX13_endDuel_3 : decode cX13_endDuel 3 = .ok (.bipush 6, 2) := by decide +kernel
theorem dX13_endDuel_5 : decode cX13_endDuel 5 = .ok (.if_icmp .ge 19, 3) := by decide +kernel
theorem dX13_endDuel_8 : decode cX13_endDuel 8 = .ok (.aload_n 0, 1) := by decide +kernel
theorem dX13_endDuel_9 : decode cX13_endDuel 9 = .ok (.getfield 13, 3) := by decide +kernel
theorem dX13_endDuel_12 : decode cX13_endDuel 12 = .ok (.bipush 12, 2) := by decide +kernel
theorem dX13_endDuel_14 : decode cX13_endDuel 14 = .ok (.iload_n 1, 1) := by decide +kernel
theorem dX13_endDuel_15 : decode cX13_endDuel 15 = .ok (.iadd, 1) := by decide +kernel
theorem dX13_endDuel_16 : decode cX13_endDuel 16 = .ok (.iconst (-1), 1) := by decide +kernel
theorem dX13_endDuel_17 : decode cX13_endDuel 17 = .ok (.iastore, 1) := by decide +kernel
theorem dX13_endDuel_18 : decode cX13_endDuel 18 = .ok (.iinc 1 1, 3) := by decide +kernel
theorem dX13_endDuel_21 : decode cX13_endDuel 21 = .ok (.goto (-19), 3) := by decide +kernel
theorem dX13_endDuel_24 : decode cX13_endDuel 24 = .ok (.return_, 1) := by decide +kernel
set_option maxHeartbeats 4000000 in
set_option maxRecDepth 100000 in
theorem k_X13_endDuel (l : Launch) (D : va_G) (cy : Nat → ClassId) (ld ad : Nat → Nat) (am : Nat) (hD : mz_D ad am) (Fa : Nat → Int32) (Ga : Nat → Int64) (Ra : Nat → Nat → Int32) (Sa : Nat → Nat → Int64) (hIF : mz_IF true Fa) (hIG : mz_IG Ga) (hIR : mz_IR [] false Ra) : Met l yX13_endDuel (wl yX13_endDuel cX13_endDuel 2 none) ({ frames := 3, cells := 0, slots := 0, locals := 140 }) (mz_p D cy ld ad am Fa Ga Ra Sa [.ref am]) (mz_w D cy ad am (fun F G R S => mz_IF true F ∧ mz_IG G ∧ mz_IR [] true R ∧ (∀ k : Nat, k ∉ ([] : List Nat) → F k = Fa k) ∧ (∀ k : Nat, k ∉ ([3] : List Nat) → R k = Ra k) ∧ (∀ k : Nat, k ∉ ([] : List Nat) → G k = Ga k) ∧ rK2 (Ra 3) (R 3) ∧ R 3 12 = (-1) ∧ R 3 13 = (-1) ∧ R 3 14 = (-1) ∧ R 3 15 = (-1) ∧ R 3 16 = (-1))) 0 0 (mz_W ad am) := by
  refine mz_met (y := yX13_endDuel) (cc := cX13_endDuel) (maxL := 2) (ret := none) (av := [.ref am]) _ (by decide) (Nat.le_of_ble_eq_true rfl) ?_
  intro p e s m args below meth c hx hb hr hml hts htl hown hlocks hK H locs hM hS ls hl
  have hown : s.vm.findClass RX13 = some m.cls := hown
  have hl : lv_has ls 2 [(0, .ref am)] := hl
  refine lv_iconst (v := 0) hx hb dX13_endDuel_0 (by decide) ?_
  refine lv_istore_n (lv' := [(1, .int 0), (0, .ref am)]) hx hb dX13_endDuel_1 rfl hl (by decide) rfl (fun ls hl => ?_)
  refine lv_iload_n hx hb dX13_endDuel_2 rfl (lv_at hl 0 rfl) ?_
  refine lv_bipush (v := 6) hx hb dX13_endDuel_3 (by decide) ?_
  refine lv_icmp_ge (tgt := 24) hx hb dX13_endDuel_5 (by decide) (fun c9 => absurd c9 (by decide)) (fun _ => ?_)
  refine lv_aload_n hx hb dX13_endDuel_8 rfl (lv_at hl 1 rfl) ?_
  refine mz_getR hx hb htl hown hK hM 3 (Nat.le_of_ble_eq_true rfl) (Nat.le_of_ble_eq_true rfl) (htl _ mw_188) (fun _ h9 => h9) dX13_endDuel_9 ?_
  refine lv_bipush (v := 12) hx hb dX13_endDuel_12 (by decide) ?_
  refine lv_iload_n hx hb dX13_endDuel_14 rfl (lv_at hl 0 rfl) ?_
  refine lv_iadd hx hb dX13_endDuel_15 ?_
  refine fx_ti (v := 12) (by decide) ?_
  refine lv_iconst (v := (-1)) hx hb dX13_endDuel_16 (by decide) ?_
  have hk_12 : (12 : Int32).toInt = 12 := by decide
  have hk_m1 : ((-1) : Int32).toInt = (-1) := by decide
  refine mz_iast (x := (-1)) hx hb hK hD hM hS 3 (Nat.le_of_ble_eq_true rfl) rfl (nn := 5560) rfl (I := 12) (by decide) (by decide) (by decide) dX13_endDuel_17 (fun H locs R hM hS hw9 hj9 => ?_)
  have hIR := hIR.put hw9 hj9 (mz_r3 (hIR.at 3) (I := 12) (by decide) (by omega) (by omega) (fun h9 => by first | (cases h9; done) | omega) (by unfold mE; omega))
  have hRR := mz_frp (K := [3]) (Fa := Ra) hj9 (fun _ _ => rfl) (by decide)
  have hrel := rK2.put (I := 12) (rK2.refl rfl) hw9 (by decide) (by omega) (by omega) (by omega)
  have hf2 : R 3 12 = (-1) := (congrFun hw9 12).trans pk_us
  refine lv_iinc (v := 1) (lv' := [(1, .int 1), (0, .ref am)]) hx hb dX13_endDuel_18 hl (k := 0) rfl (by decide) (by decide) rfl (fun ls hl => ?_)
  refine lv_goto (tgt := 2) hx hb dX13_endDuel_21 (by decide) ?_
  refine lv_iload_n hx hb dX13_endDuel_2 rfl (lv_at hl 0 rfl) ?_
  refine lv_bipush (v := 6) hx hb dX13_endDuel_3 (by decide) ?_
  refine lv_icmp_ge (tgt := 24) hx hb dX13_endDuel_5 (by decide) (fun c9 => absurd c9 (by decide)) (fun _ => ?_)
  refine lv_aload_n hx hb dX13_endDuel_8 rfl (lv_at hl 1 rfl) ?_
  refine mz_getR hx hb htl hown hK hM 3 (Nat.le_of_ble_eq_true rfl) (Nat.le_of_ble_eq_true rfl) (htl _ mw_188) (fun _ h9 => h9) dX13_endDuel_9 ?_
  refine lv_bipush (v := 12) hx hb dX13_endDuel_12 (by decide) ?_
  refine lv_iload_n hx hb dX13_endDuel_14 rfl (lv_at hl 0 rfl) ?_
  refine lv_iadd hx hb dX13_endDuel_15 ?_
  refine fx_ti (v := 13) (by decide) ?_
  refine lv_iconst (v := (-1)) hx hb dX13_endDuel_16 (by decide) ?_
  have hk_13 : (13 : Int32).toInt = 13 := by decide
  have hk_m1 : ((-1) : Int32).toInt = (-1) := by decide
  refine mz_iast (x := (-1)) hx hb hK hD hM hS 3 (Nat.le_of_ble_eq_true rfl) rfl (nn := 5560) rfl (I := 13) (by decide) (by decide) (by decide) dX13_endDuel_17 (fun H locs R hM hS hw9 hj9 => ?_)
  have hIR := hIR.put hw9 hj9 (mz_r3 (hIR.at 3) (I := 13) (by decide) (by omega) (by omega) (fun h9 => by first | (cases h9; done) | omega) (by unfold mE; omega))
  have hRR := mz_frp (K := [3]) (Fa := Ra) hj9 hRR (by decide)
  have hrel := rK2.put (I := 13) hrel hw9 (by decide) (by omega) (by omega) (by omega)
  have hf2 : R 3 12 = _ := (congrFun hw9 12).trans ((pk_un (by decide)).trans hf2)
  have hf4 : R 3 13 = (-1) := (congrFun hw9 13).trans pk_us
  refine lv_iinc (v := 2) (lv' := [(1, .int 2), (0, .ref am)]) hx hb dX13_endDuel_18 hl (k := 0) rfl (by decide) (by decide) rfl (fun ls hl => ?_)
  refine lv_goto (tgt := 2) hx hb dX13_endDuel_21 (by decide) ?_
  refine lv_iload_n hx hb dX13_endDuel_2 rfl (lv_at hl 0 rfl) ?_
  refine lv_bipush (v := 6) hx hb dX13_endDuel_3 (by decide) ?_
  refine lv_icmp_ge (tgt := 24) hx hb dX13_endDuel_5 (by decide) (fun c9 => absurd c9 (by decide)) (fun _ => ?_)
  refine lv_aload_n hx hb dX13_endDuel_8 rfl (lv_at hl 1 rfl) ?_
  refine mz_getR hx hb htl hown hK hM 3 (Nat.le_of_ble_eq_true rfl) (Nat.le_of_ble_eq_true rfl) (htl _ mw_188) (fun _ h9 => h9) dX13_endDuel_9 ?_
  refine lv_bipush (v := 12) hx hb dX13_endDuel_12 (by decide) ?_
  refine lv_iload_n hx hb dX13_endDuel_14 rfl (lv_at hl 0 rfl) ?_
  refine lv_iadd hx hb dX13_endDuel_15 ?_
  refine fx_ti (v := 14) (by decide) ?_
  refine lv_iconst (v := (-1)) hx hb dX13_endDuel_16 (by decide) ?_
  have hk_14 : (14 : Int32).toInt = 14 := by decide
  have hk_m1 : ((-1) : Int32).toInt = (-1) := by decide
  refine mz_iast (x := (-1)) hx hb hK hD hM hS 3 (Nat.le_of_ble_eq_true rfl) rfl (nn := 5560) rfl (I := 14) (by decide) (by decide) (by decide) dX13_endDuel_17 (fun H locs R hM hS hw9 hj9 => ?_)
  have hIR := hIR.put hw9 hj9 (mz_r3 (hIR.at 3) (I := 14) (by decide) (by omega) (by omega) (fun h9 => by first | (cases h9; done) | omega) (by unfold mE; omega))
  have hRR := mz_frp (K := [3]) (Fa := Ra) hj9 hRR (by decide)
  have hrel := rK2.put (I := 14) hrel hw9 (by decide) (by omega) (by omega) (by omega)
  have hf2 : R 3 12 = _ := (congrFun hw9 12).trans ((pk_un (by decide)).trans hf2)
  have hf4 : R 3 13 = _ := (congrFun hw9 13).trans ((pk_un (by decide)).trans hf4)
  have hf6 : R 3 14 = (-1) := (congrFun hw9 14).trans pk_us
  refine lv_iinc (v := 3) (lv' := [(1, .int 3), (0, .ref am)]) hx hb dX13_endDuel_18 hl (k := 0) rfl (by decide) (by decide) rfl (fun ls hl => ?_)
  refine lv_goto (tgt := 2) hx hb dX13_endDuel_21 (by decide) ?_
  refine lv_iload_n hx hb dX13_endDuel_2 rfl (lv_at hl 0 rfl) ?_
  refine lv_bipush (v := 6) hx hb dX13_endDuel_3 (by decide) ?_
  refine lv_icmp_ge (tgt := 24) hx hb dX13_endDuel_5 (by decide) (fun c9 => absurd c9 (by decide)) (fun _ => ?_)
  refine lv_aload_n hx hb dX13_endDuel_8 rfl (lv_at hl 1 rfl) ?_
  refine mz_getR hx hb htl hown hK hM 3 (Nat.le_of_ble_eq_true rfl) (Nat.le_of_ble_eq_true rfl) (htl _ mw_188) (fun _ h9 => h9) dX13_endDuel_9 ?_
  refine lv_bipush (v := 12) hx hb dX13_endDuel_12 (by decide) ?_
  refine lv_iload_n hx hb dX13_endDuel_14 rfl (lv_at hl 0 rfl) ?_
  refine lv_iadd hx hb dX13_endDuel_15 ?_
  refine fx_ti (v := 15) (by decide) ?_
  refine lv_iconst (v := (-1)) hx hb dX13_endDuel_16 (by decide) ?_
  have hk_15 : (15 : Int32).toInt = 15 := by decide
  have hk_m1 : ((-1) : Int32).toInt = (-1) := by decide
  refine mz_iast (x := (-1)) hx hb hK hD hM hS 3 (Nat.le_of_ble_eq_true rfl) rfl (nn := 5560) rfl (I := 15) (by decide) (by decide) (by decide) dX13_endDuel_17 (fun H locs R hM hS hw9 hj9 => ?_)
  have hIR := hIR.put hw9 hj9 (mz_r3 (hIR.at 3) (I := 15) (by decide) (by omega) (by omega) (fun h9 => by first | (cases h9; done) | omega) (by unfold mE; omega))
  have hRR := mz_frp (K := [3]) (Fa := Ra) hj9 hRR (by decide)
  have hrel := rK2.put (I := 15) hrel hw9 (by decide) (by omega) (by omega) (by omega)
  have hf2 : R 3 12 = _ := (congrFun hw9 12).trans ((pk_un (by decide)).trans hf2)
  have hf4 : R 3 13 = _ := (congrFun hw9 13).trans ((pk_un (by decide)).trans hf4)
  have hf6 : R 3 14 = _ := (congrFun hw9 14).trans ((pk_un (by decide)).trans hf6)
  have hf11 : R 3 15 = (-1) := (congrFun hw9 15).trans pk_us
  refine lv_iinc (v := 4) (lv' := [(1, .int 4), (0, .ref am)]) hx hb dX13_endDuel_18 hl (k := 0) rfl (by decide) (by decide) rfl (fun ls hl => ?_)
  refine lv_goto (tgt := 2) hx hb dX13_endDuel_21 (by decide) ?_
  refine lv_iload_n hx hb dX13_endDuel_2 rfl (lv_at hl 0 rfl) ?_
  refine lv_bipush (v := 6) hx hb dX13_endDuel_3 (by decide) ?_
  refine lv_icmp_ge (tgt := 24) hx hb dX13_endDuel_5 (by decide) (fun c9 => absurd c9 (by decide)) (fun _ => ?_)
  refine lv_aload_n hx hb dX13_endDuel_8 rfl (lv_at hl 1 rfl) ?_
  refine mz_getR hx hb htl hown hK hM 3 (Nat.le_of_ble_eq_true rfl) (Nat.le_of_ble_eq_true rfl) (htl _ mw_188) (fun _ h9 => h9) dX13_endDuel_9 ?_
  refine lv_bipush (v := 12) hx hb dX13_endDuel_12 (by decide) ?_
  refine lv_iload_n hx hb dX13_endDuel_14 rfl (lv_at hl 0 rfl) ?_
  refine lv_iadd hx hb dX13_endDuel_15 ?_
  refine fx_ti (v := 16) (by decide) ?_
  refine lv_iconst (v := (-1)) hx hb dX13_endDuel_16 (by decide) ?_
  have hk_16 : (16 : Int32).toInt = 16 := by decide
  have hk_m1 : ((-1) : Int32).toInt = (-1) := by decide
  refine mz_iast (x := (-1)) hx hb hK hD hM hS 3 (Nat.le_of_ble_eq_true rfl) rfl (nn := 5560) rfl (I := 16) (by decide) (by decide) (by decide) dX13_endDuel_17 (fun H locs R hM hS hw9 hj9 => ?_)
  have hIR := hIR.put hw9 hj9 (mz_r3 (hIR.at 3) (I := 16) (by decide) (by omega) (by omega) (fun h9 => by first | (cases h9; done) | omega) (by unfold mE; omega))
  have hRR := mz_frp (K := [3]) (Fa := Ra) hj9 hRR (by decide)
  have hrel := rK2.put (I := 16) hrel hw9 (by decide) (by omega) (by omega) (by omega)
  have hf2 : R 3 12 = _ := (congrFun hw9 12).trans ((pk_un (by decide)).trans hf2)
  have hf4 : R 3 13 = _ := (congrFun hw9 13).trans ((pk_un (by decide)).trans hf4)
  have hf6 : R 3 14 = _ := (congrFun hw9 14).trans ((pk_un (by decide)).trans hf6)
  have hf11 : R 3 15 = _ := (congrFun hw9 15).trans ((pk_un (by decide)).trans hf11)
  have hf13 : R 3 16 = (-1) := (congrFun hw9 16).trans pk_us
  refine lv_iinc (v := 5) (lv' := [(1, .int 5), (0, .ref am)]) hx hb dX13_endDuel_18 hl (k := 0) rfl (by decide) (by decide) rfl (fun ls hl => ?_)
  refine lv_goto (tgt := 2) hx hb dX13_endDuel_21 (by decide) ?_
  refine lv_iload_n hx hb dX13_endDuel_2 rfl (lv_at hl 0 rfl) ?_
  refine lv_bipush (v := 6) hx hb dX13_endDuel_3 (by decide) ?_
  refine lv_icmp_ge (tgt := 24) hx hb dX13_endDuel_5 (by decide) (fun c9 => absurd c9 (by decide)) (fun _ => ?_)
  refine lv_aload_n hx hb dX13_endDuel_8 rfl (lv_at hl 1 rfl) ?_
  refine mz_getR hx hb htl hown hK hM 3 (Nat.le_of_ble_eq_true rfl) (Nat.le_of_ble_eq_true rfl) (htl _ mw_188) (fun _ h9 => h9) dX13_endDuel_9 ?_
  refine lv_bipush (v := 12) hx hb dX13_endDuel_12 (by decide) ?_
  refine lv_iload_n hx hb dX13_endDuel_14 rfl (lv_at hl 0 rfl) ?_
  refine lv_iadd hx hb dX13_endDuel_15 ?_
  refine fx_ti (v := 17) (by decide) ?_
  refine lv_iconst (v := (-1)) hx hb dX13_endDuel_16 (by decide) ?_
  have hk_17 : (17 : Int32).toInt = 17 := by decide
  have hk_m1 : ((-1) : Int32).toInt = (-1) := by decide
  refine mz_iast (x := (-1)) hx hb hK hD hM hS 3 (Nat.le_of_ble_eq_true rfl) rfl (nn := 5560) rfl (I := 17) (by decide) (by decide) (by decide) dX13_endDuel_17 (fun H locs R hM hS hw9 hj9 => ?_)
  have hIR := hIR.put hw9 hj9 (mz_r3 (hIR.at 3) (I := 17) (by decide) (by omega) (by omega) (fun h9 => by first | (cases h9; done) | omega) (by unfold mE; omega))
  have hRR := mz_frp (K := [3]) (Fa := Ra) hj9 hRR (by decide)
  have hrel := rK2.put (I := 17) hrel hw9 (by decide) (by omega) (by omega) (by omega)
  have hf2 : R 3 12 = _ := (congrFun hw9 12).trans ((pk_un (by decide)).trans hf2)
  have hf4 : R 3 13 = _ := (congrFun hw9 13).trans ((pk_un (by decide)).trans hf4)
  have hf6 : R 3 14 = _ := (congrFun hw9 14).trans ((pk_un (by decide)).trans hf6)
  have hf11 : R 3 15 = _ := (congrFun hw9 15).trans ((pk_un (by decide)).trans hf11)
  have hf13 : R 3 16 = _ := (congrFun hw9 16).trans ((pk_un (by decide)).trans hf13)
  have hf15 : R 3 17 = (-1) := (congrFun hw9 17).trans pk_us
  refine lv_iinc (v := 6) (lv' := [(1, .int 6), (0, .ref am)]) hx hb dX13_endDuel_18 hl (k := 0) rfl (by decide) (by decide) rfl (fun ls hl => ?_)
  refine lv_goto (tgt := 2) hx hb dX13_endDuel_21 (by decide) ?_
  refine lv_iload_n hx hb dX13_endDuel_2 rfl (lv_at hl 0 rfl) ?_
  refine lv_bipush (v := 6) hx hb dX13_endDuel_3 (by decide) ?_
  refine lv_icmp_ge (tgt := 24) hx hb dX13_endDuel_5 (by decide) (fun _ => ?_) (fun c9 => absurd (by decide) c9)
  have hk_m1 : ((-1) : Int32).toInt = (-1) := by decide
  have hk_m1 : ((-1) : Int32).toInt = (-1) := by decide
  have hk_m1 : ((-1) : Int32).toInt = (-1) := by decide
  have hk_m1 : ((-1) : Int32).toInt = (-1) := by decide
  have hk_m1 : ((-1) : Int32).toInt = (-1) := by decide
  have hIR := hIR.duel (by unfold dO; rw [hf2, show R 3 (12 + 1) = _ from hf4, show R 3 (12 + 2) = _ from hf6, show R 3 (12 + 3) = _ from hf11, show R 3 (12 + 4) = _ from hf13]; omega)
  exact mz_vret hx hb hr hlocks ⟨hIF, hIG, hIR, (fun _ _ => rfl), hRR, (fun _ _ => rfl), hrel, hf2, hf4, hf6, hf11, hf13⟩ hM hS dX13_endDuel_24
end
section
theorem dX13_ofSinger_0 : decode cX13_ofSinger 0 = .ok (.aload_n 0, 1) := by decide +kernel
theorem dX13_ofSinger_1 : decode cX13_ofSinger 1 = .ok (.getfield 13, 3) := by decide +kernel
theorem dX13_ofSinger_4 : decode cX13_ofSinger 4 = .ok (.bipush 18, 2) := by decide +kernel
theorem dX13_ofSinger_6 : decode cX13_ofSinger 6 = .ok (.iconst 5, 1) := by decide +kernel
theorem dX13_ofSinger_7 : decode cX13_ofSinger 7 = .ok (.iload_n 1, 1) := by decide +kernel
theorem dX13_ofSinger_8 : decode cX13_ofSinger 8 = .ok (.imul, 1) := by decide +kernel
theorem dX13_ofSinger_9 : decode cX13_ofSinger 9 = .ok (.iadd, 1) := by decide +kernel
theorem dX13_ofSinger_10 : decode cX13_ofSinger 10 = .ok (.iload_n 2, 1) := by decide +kernel
theorem dX13_ofSinger_11 : decode cX13_ofSinger 11 = .ok (.iadd, 1) := by decide +kernel
theorem dX13_ofSinger_12 : decode cX13_ofSinger 12 = .ok (.iaload, 1) := by decide +kernel
theorem dX13_ofSinger_13 : decode cX13_ofSinger 13 = .ok (.ireturn, 1) := by decide +kernel
set_option maxHeartbeats 4000000 in
set_option maxRecDepth 100000 in
theorem k_X13_ofSinger (l : Launch) (D : va_G) (cy : Nat → ClassId) (ld ad : Nat → Nat) (am : Nat) (hD : mz_D ad am) (Fa : Nat → Int32) (Ga : Nat → Int64) (Ra : Nat → Nat → Int32) (Sa : Nat → Nat → Int64) (p1 : Int32) (p2 : Int32) (hIF : mz_IF false Fa) (hIG : mz_IG Ga) (hIR : mz_IR [] true Ra) (hp_0 : (-1) ≤ p1.toInt) (hp_1 : p1.toInt ≤ 7) (hp_2 : 0 ≤ p2.toInt) (hp_3 : p2.toInt ≤ 4) : Met l yX13_ofSinger (wl yX13_ofSinger cX13_ofSinger 3 (some .int)) ({ frames := 3, cells := 0, slots := 0, locals := 140 }) (mz_p D cy ld ad am Fa Ga Ra Sa [.ref am, .int p1, .int p2]) (mz_j D cy ad am Fa Ga Ra Sa (fun r => True)) 0 0 (mz_W ad am) := by
  refine mz_met (y := yX13_ofSinger) (cc := cX13_ofSinger) (maxL := 3) (ret := (some .int)) (av := [.ref am, .int p1, .int p2]) _ (by decide) (Nat.le_of_ble_eq_true rfl) ?_
  intro p e s m args below meth c hx hb hr hml hts htl hown hlocks hK H locs hM hS ls hl
  have hown : s.vm.findClass RX13 = some m.cls := hown
  have hl : lv_has ls 3 [(0, .ref am), (1, .int p1), (2, .int p2)] := hl
  have hr_p1 := tk_rng p1
  have hr_p2 := tk_rng p2
  refine lv_aload_n hx hb dX13_ofSinger_0 rfl (lv_at hl 0 rfl) ?_
  refine mz_getR hx hb htl hown hK hM 3 (Nat.le_of_ble_eq_true rfl) (Nat.le_of_ble_eq_true rfl) (htl _ mw_188) (fun _ h9 => h9) dX13_ofSinger_1 ?_
  refine lv_bipush (v := 18) hx hb dX13_ofSinger_4 (by decide) ?_
  refine lv_iconst (v := 5) hx hb dX13_ofSinger_6 (by decide) ?_
  refine lv_iload_n hx hb dX13_ofSinger_7 rfl (lv_at hl 1 rfl) ?_
  refine lv_imul hx hb dX13_ofSinger_8 ?_
  refine tk_mul (show (5 : Int32).toInt = 5 by decide) rfl (by omega) (by omega) (fun v1 h_v1 => ?_)
  refine lv_iadd hx hb dX13_ofSinger_9 ?_
  refine tk_add (show (18 : Int32).toInt = 18 by decide) rfl (by omega) (by omega) (fun v2 h_v2 => ?_)
  refine lv_iload_n hx hb dX13_ofSinger_10 rfl (lv_at hl 2 rfl) ?_
  refine lv_iadd hx hb dX13_ofSinger_11 ?_
  refine tk_add rfl rfl (by omega) (by omega) (fun v3 h_v3 => ?_)
  refine mz_iald hx hb hK hM 3 (Nat.le_of_ble_eq_true rfl) rfl (nn := 5560) rfl rfl (by omega) (by omega) dX13_ofSinger_12 (fun v4 e_v4 => ?_)
  have hq_v4 := tk_rng v4
  exact mz_jret (v := v4) hx hb hr rfl hlocks trivial hM hS dX13_ofSinger_13
end
section
theorem dX13_setWake_0 : decode cX13_setWake 0 = .ok (.aload_n 0, 1) := by decide +kernel
theorem dX13_setWake_1 : decode cX13_setWake 1 = .ok (.getfield 13, 3) := by decide +kernel
theorem dX13_setWake_4 : decode cX13_setWake 4 = .ok (.bipush 18, 2) := by decide +kernel
theorem dX13_setWake_6 : decode cX13_setWake 6 = .ok (.iconst 5, 1) := by decide +kernel
theorem dX13_setWake_7 : decode cX13_setWake 7 = .ok (.iload_n 1, 1) := by decide +kernel
theorem dX13_setWake_8 : decode cX13_setWake 8 = .ok (.imul, 1) := by decide +kernel
theorem dX13_setWake_9 : decode cX13_setWake 9 = .ok (.iadd, 1) := by decide +kernel
theorem dX13_setWake_10 : decode cX13_setWake 10 = .ok (.iconst 0, 1) := by decide +kernel
theorem dX13_setWake_11 : decode cX13_setWake 11 = .ok (.iadd, 1) := by decide +kernel
theorem dX13_setWake_12 : decode cX13_setWake 12 = .ok (.iload_n 2, 1) := by decide +kernel
theorem dX13_setWake_13 : decode cX13_setWake 13 = .ok (.iastore, 1) := by decide +kernel
theorem dX13_setWake_14 : decode cX13_setWake 14 = .ok (.return_, 1) := by decide +kernel
set_option maxHeartbeats 4000000 in
set_option maxRecDepth 100000 in
theorem k_X13_setWake (l : Launch) (D : va_G) (cy : Nat → ClassId) (ld ad : Nat → Nat) (am : Nat) (hD : mz_D ad am) (Fa : Nat → Int32) (Ga : Nat → Int64) (Ra : Nat → Nat → Int32) (Sa : Nat → Nat → Int64) (p1 : Int32) (p2 : Int32) (g12 : Int32) (g13 : Int32) (g14 : Int32) (g15 : Int32) (g16 : Int32) (hIF : mz_IF true Fa) (hIG : mz_IG Ga) (hIR : mz_IR [] true Ra) (hg_0 : Ra 3 12 = g12) (hg_1 : Ra 3 13 = g13) (hg_2 : Ra 3 14 = g14) (hg_3 : Ra 3 15 = g15) (hg_4 : Ra 3 16 = g16) (hp_0 : 0 ≤ p1.toInt) (hp_1 : p1.toInt ≤ 7) : Met l yX13_setWake (wl yX13_setWake cX13_setWake 3 none) ({ frames := 3, cells := 0, slots := 0, locals := 140 }) (mz_p D cy ld ad am Fa Ga Ra Sa [.ref am, .int p1, .int p2]) (mz_w D cy ad am (fun F G R S => mz_IF true F ∧ mz_IG G ∧ mz_IR [] true R ∧ (∀ k : Nat, k ∉ ([] : List Nat) → F k = Fa k) ∧ (∀ k : Nat, k ∉ ([3] : List Nat) → R k = Ra k) ∧ (∀ k : Nat, k ∉ ([] : List Nat) → G k = Ga k) ∧ rK2 (Ra 3) (R 3) ∧ R 3 12 = g12 ∧ R 3 13 = g13 ∧ R 3 14 = g14 ∧ R 3 15 = g15 ∧ R 3 16 = g16)) 0 0 (mz_W ad am) := by
  refine mz_met (y := yX13_setWake) (cc := cX13_setWake) (maxL := 3) (ret := none) (av := [.ref am, .int p1, .int p2]) _ (by decide) (Nat.le_of_ble_eq_true rfl) ?_
  intro p e s m args below meth c hx hb hr hml hts htl hown hlocks hK H locs hM hS ls hl
  have hown : s.vm.findClass RX13 = some m.cls := hown
  have hl : lv_has ls 3 [(0, .ref am), (1, .int p1), (2, .int p2)] := hl
  have hr_p1 := tk_rng p1
  have hr_p2 := tk_rng p2
  have hq_g12 := tk_rng g12
  have hq_g13 := tk_rng g13
  have hq_g14 := tk_rng g14
  have hq_g15 := tk_rng g15
  have hq_g16 := tk_rng g16
  have hr_g12 : (-1) ≤ g12.toInt ∧ g12.toInt ≤ 7 := by have h9 := hIR.d; unfold dO at h9; rw [hg_0] at h9; omega
  have hr_g13 : (-1) ≤ g13.toInt ∧ g13.toInt ≤ 7 := by have h9 := hIR.d; unfold dO at h9; rw [hg_1] at h9; omega
  have hti_0 : g12.toInt ≠ -1 → g13.toInt ≠ -1 := by have h9 := hIR.d.2.2.2.2.2; rw [hg_0, hg_1] at h9; exact fun h8 => (h9 h8).1
  have hr_g14 : (-1) ≤ g14.toInt ∧ g14.toInt ≤ 99 := by have h9 := hIR.d; unfold dO at h9; rw [hg_2] at h9; omega
  have hr_g15 : (-1) ≤ g15.toInt ∧ g15.toInt ≤ 11 := by have h9 := hIR.d; unfold dO at h9; rw [hg_3] at h9; omega
  have hti_1 : g12.toInt ≠ -1 → g15.toInt ≠ -1 := by have h9 := hIR.d.2.2.2.2.2; rw [hg_0, hg_3] at h9; exact fun h8 => (h9 h8).2.1
  have hr_g16 : (-1) ≤ g16.toInt ∧ g16.toInt ≤ 7 := by have h9 := hIR.d; unfold dO at h9; rw [hg_4] at h9; omega
  have hti_2 : g12.toInt ≠ -1 → g16.toInt ≠ -1 := by have h9 := hIR.d.2.2.2.2.2; rw [hg_0, hg_4] at h9; exact fun h8 => (h9 h8).2.2
  refine lv_aload_n hx hb dX13_setWake_0 rfl (lv_at hl 0 rfl) ?_
  refine mz_getR hx hb htl hown hK hM 3 (Nat.le_of_ble_eq_true rfl) (Nat.le_of_ble_eq_true rfl) (htl _ mw_188) (fun _ h9 => h9) dX13_setWake_1 ?_
  refine lv_bipush (v := 18) hx hb dX13_setWake_4 (by decide) ?_
  refine lv_iconst (v := 5) hx hb dX13_setWake_6 (by decide) ?_
  refine lv_iload_n hx hb dX13_setWake_7 rfl (lv_at hl 1 rfl) ?_
  refine lv_imul hx hb dX13_setWake_8 ?_
  refine tk_mul (show (5 : Int32).toInt = 5 by decide) rfl (by omega) (by omega) (fun v4 h_v4 => ?_)
  refine lv_iadd hx hb dX13_setWake_9 ?_
  refine tk_add (show (18 : Int32).toInt = 18 by decide) rfl (by omega) (by omega) (fun v5 h_v5 => ?_)
  refine lv_iconst (v := 0) hx hb dX13_setWake_10 (by decide) ?_
  refine lv_iadd hx hb dX13_setWake_11 ?_
  refine tk_add rfl (show (0 : Int32).toInt = 0 by decide) (by omega) (by omega) (fun v6 h_v6 => ?_)
  refine lv_iload_n hx hb dX13_setWake_12 rfl (lv_at hl 2 rfl) ?_
  refine mz_iast (x := p2) hx hb hK hD hM hS 3 (Nat.le_of_ble_eq_true rfl) rfl (nn := 5560) rfl rfl (by omega) (by omega) dX13_setWake_13 (fun H locs R hM hS hw9 hj9 => ?_)
  have hIR := hIR.put hw9 hj9 (mz_r3 (hIR.at 3) (I := v6.toInt) rfl (by omega) (by omega) (fun h9 => by first | (cases h9; done) | omega) (by unfold mE; omega))
  have hRR := mz_frp (K := [3]) (Fa := Ra) hj9 (fun _ _ => rfl) (by decide)
  have hrel := rK2.put (I := v6.toInt) (rK2.refl rfl) hw9 rfl (by omega) (by omega) (by omega)
  have hg_0 : R 3 12 = _ := (congrFun hw9 12).trans ((pk_un (fun h9 => by have h8 := tk_nat (i := v6) rfl (by omega); omega)).trans hg_0)
  have hg_1 : R 3 13 = _ := (congrFun hw9 13).trans ((pk_un (fun h9 => by have h8 := tk_nat (i := v6) rfl (by omega); omega)).trans hg_1)
  have hg_2 : R 3 14 = _ := (congrFun hw9 14).trans ((pk_un (fun h9 => by have h8 := tk_nat (i := v6) rfl (by omega); omega)).trans hg_2)
  have hg_3 : R 3 15 = _ := (congrFun hw9 15).trans ((pk_un (fun h9 => by have h8 := tk_nat (i := v6) rfl (by omega); omega)).trans hg_3)
  have hg_4 : R 3 16 = _ := (congrFun hw9 16).trans ((pk_un (fun h9 => by have h8 := tk_nat (i := v6) rfl (by omega); omega)).trans hg_4)
  exact mz_vret hx hb hr hlocks ⟨hIF, hIG, hIR, (fun _ _ => rfl), hRR, (fun _ _ => rfl), hrel, hg_0, hg_1, hg_2, hg_3, hg_4⟩ hM hS dX13_setWake_14
end
section
theorem dX13_isSinger_0 : decode cX13_isSinger 0 = .ok (.iload_n 1, 1) := by decide +kernel
theorem dX13_isSinger_1 : decode cX13_isSinger 1 = .ok (.i2l, 1) := by decide +kernel
theorem dX13_isSinger_2 : decode cX13_isSinger 2 = .ok (.lconst 0, 1) := by decide +kernel
theorem dX13_isSinger_3 : decode cX13_isSinger 3 = .ok (.aload_n 0, 1) := by decide +kernel
theorem dX13_isSinger_4 : decode cX13_isSinger 4 = .ok (.getfield 13, 3) := by decide +kernel
theorem dX13_isSinger_7 : decode cX13_isSinger 7 = .ok (.iconst 0, 1) := by decide +kernel
theorem dX13_isSinger_8 : decode cX13_isSinger 8 = .ok (.iaload, 1) := by decide +kernel
theorem dX13_isSinger_9 : decode cX13_isSinger 9 = .ok (.i2l, 1) := by decide +kernel
theorem dX13_isSinger_10 : decode cX13_isSinger 10 = .ok (.lconst 1, 1) := by decide +kernel
theorem dX13_isSinger_11 : decode cX13_isSinger 11 = .ok (.lsub, 1) := by decide +kernel
theorem dX13_isSinger_12 : decode cX13_isSinger 12 = .ok (.invokestatic 190, 3) := by decide +kernel
theorem dX13_isSinger_15 : decode cX13_isSinger 15 = .ok (.ireturn, 1) := by decide +kernel
set_option maxHeartbeats 4000000 in
set_option maxRecDepth 100000 in
theorem k_X13_isSinger (l : Launch) (D : va_G) (cy : Nat → ClassId) (ld ad : Nat → Nat) (am : Nat) (hD : mz_D ad am) (Fa : Nat → Int32) (Ga : Nat → Int64) (Ra : Nat → Nat → Int32) (Sa : Nat → Nat → Int64) (p1 : Int32) (hIF : mz_IF false Fa) (hIG : mz_IG Ga) (hIR : mz_IR [] true Ra) : Met l yX13_isSinger (wl yX13_isSinger cX13_isSinger 2 (some .boolean)) ({ frames := 4, cells := 0, slots := 0, locals := 210 }) (mz_p D cy ld ad am Fa Ga Ra Sa [.ref am, .int p1]) (mz_j D cy ad am Fa Ga Ra Sa (fun r => (1 ≤ r.toInt → 0 ≤ p1.toInt ∧ p1.toInt ≤ 7) ∧ 0 ≤ r.toInt ∧ r.toInt ≤ 1 ∧ 0 ≤ r.toInt ∧ r.toInt ≤ 1)) 0 0 (mz_W ad am) := by
  refine mz_met (y := yX13_isSinger) (cc := cX13_isSinger) (maxL := 2) (ret := (some .boolean)) (av := [.ref am, .int p1]) _ (by decide) (Nat.le_of_ble_eq_true rfl) ?_
  intro p e s m args below meth c hx hb hr hml hts htl hown hlocks hK H locs hM hS ls hl
  have hown : s.vm.findClass RX13 = some m.cls := hown
  have hl : lv_has ls 2 [(0, .ref am), (1, .int p1)] := hl
  have hr_p1 := tk_rng p1
  refine lv_iload_n hx hb dX13_isSinger_0 rfl (lv_at hl 1 rfl) ?_
  obtain ⟨w1, e_w1, h_w1⟩ : ∃ z : Int64, p1.toInt64 = z ∧ z.toInt = p1.toInt := ⟨_, rfl, fl_w _⟩
  refine lv_i2l (v := w1) hx hb dX13_isSinger_1 e_w1 ?_
  refine lv_lconst (v := 0) hx hb dX13_isSinger_2 (by decide) ?_
  refine lv_aload_n hx hb dX13_isSinger_3 rfl (lv_at hl 0 rfl) ?_
  refine mz_getR hx hb htl hown hK hM 3 (Nat.le_of_ble_eq_true rfl) (Nat.le_of_ble_eq_true rfl) (htl _ mw_188) (fun _ h9 => h9) dX13_isSinger_4 ?_
  refine lv_iconst (v := 0) hx hb dX13_isSinger_7 (by decide) ?_
  refine mz_iald hx hb hK hM 3 (Nat.le_of_ble_eq_true rfl) rfl (nn := 5560) rfl (I := 0) (by decide) (by decide) (by decide) dX13_isSinger_8 (fun v3 hf2 => ?_)
  have hf2 : Ra 3 0 = v3 := hf2
  have hq_v3 := tk_rng v3
  have hr_v3 : 0 ≤ v3.toInt ∧ v3.toInt ≤ 8 := by have h9 := mz_r3c 0 (hIR.at 3) hf2 (by decide); unfold mE at h9; omega
  obtain ⟨w4, e_w4, h_w4⟩ : ∃ z : Int64, v3.toInt64 = z ∧ z.toInt = v3.toInt := ⟨_, rfl, fl_w _⟩
  refine lv_i2l (v := w4) hx hb dX13_isSinger_9 e_w4 ?_
  refine lv_lconst (v := 1) hx hb dX13_isSinger_10 (by decide) ?_
  refine lv_lsub hx hb dX13_isSinger_11 ?_
  refine tk_lsub rfl (show (1 : Int64).toInt = 1 by decide) (by omega) (by omega) (fun w5 h_w5 => ?_)
  have hk_0 : (0 : Int64).toInt = 0 := by decide
  refine mz_Sj (As := [.long w1, .long 0, .long w5]) (rest := []) ⟨hx, hb, hml, hown, hts⟩ hK hM hS (k_X13_in l D cy ld ad am hD _ _ _ _ w1 0 w5) ⟨callB_of 3 hts (wl_in mw_292) rfl rfl rfl (htl _ mw_5) (htl _ mw_290) hd_yX13_in ⟨(Nat.le_of_ble_eq_true rfl), (Nat.le_of_ble_eq_true rfl)⟩, htl _ mw_291⟩ rfl hl.1 rfl (Nat.le_of_ble_eq_true rfl) dX13_isSinger_12 ⟨(Nat.le_of_ble_eq_true rfl), (Nat.le_of_ble_eq_true rfl)⟩ (fun v6 H locs hpo hM hS => ?_)
  obtain ⟨hpo10, hpo11, hpo12, hpo13, hpo14, hpo15⟩ := hpo
  have hq_v6 := tk_rng v6
  exact mz_jret (v := v6) hx hb hr (tk_nz (by omega) (by omega)) hlocks ⟨(by omega), (by omega), (by omega), (by omega), (by omega)⟩ hM hS dX13_isSinger_15
end
