theorem hd_yX13_inDuel : yX13_inDuel.cls ≠ "java/lang/invoke/MethodHandle" ∧ yX13_inDuel.cls ≠ "java/lang/invoke/VarHandle" ∧ (parseMethodDescriptor yX13_inDuel.desc).map (fun d => d.parameters.length) = some 1 := by decide +kernel
theorem dX13_isDuel_0 : decode cX13_isDuel 0 = .ok (.aload_n 0, 1) := by decide +kernel
theorem dX13_isDuel_1 : decode cX13_isDuel 1 = .ok (.iconst 0, 1) := by decide +kernel
theorem dX13_isDuel_2 : decode cX13_isDuel 2 = .ok (.invokevirtual 194, 3) := by decide +kernel
theorem dX13_isDuel_5 : decode cX13_isDuel 5 = .ok (.iconst (-1), 1) := by decide +kernel
theorem dX13_isDuel_6 : decode cX13_isDuel 6 = .ok (.if_icmp .eq 7, 3) := by decide +kernel
theorem dX13_isDuel_13 : decode cX13_isDuel 13 = .ok (.iconst 0, 1) := by decide +kernel
theorem dX13_isDuel_14 : decode cX13_isDuel 14 = .ok (.ireturn, 1) := by decide +kernel
theorem dX13_isDuel_9 : decode cX13_isDuel 9 = .ok (.iconst 1, 1) := by decide +kernel
theorem dX13_isDuel_10 : decode cX13_isDuel 10 = .ok (.goto 4, 3) := by decide +kernel
set_option maxHeartbeats 4000000 in
set_option maxRecDepth 100000 in
theorem k_X13_isDuel (l : Launch) (D : va_G) (cy : Nat → ClassId) (ld ad : Nat → Nat) (am : Nat) (hD : mz_D ad am) (Fa : Nat → Int32) (Ga : Nat → Int64) (Ra : Nat → Nat → Int32) (Sa : Nat → Nat → Int64) (g12 : Int32) (hIF : mz_IF false Fa) (hIG : mz_IG Ga) (hIR : mz_IR [] true Ra) (hg_0 : Ra 3 12 = g12) : Met l yX13_isDuel (wl yX13_isDuel cX13_isDuel 1 (some .boolean)) ({ frames := 4, cells := 0, slots := 0, locals := 210 }) (mz_p D cy ld ad am Fa Ga Ra Sa [.ref am]) (mz_j D cy ad am Fa Ga Ra Sa (fun r => (1 ≤ r.toInt → 0 ≤ g12.toInt) ∧ (r.toInt ≤ 0 → g12.toInt ≤ (-1)) ∧ 0 ≤ r.toInt ∧ r.toInt ≤ 1 ∧ 0 ≤ r.toInt ∧ r.toInt ≤ 1)) 0 0 (mz_W ad am) := by
  refine mz_met (y := yX13_isDuel) (cc := cX13_isDuel) (maxL := 1) (ret := (some .boolean)) (av := [.ref am]) _ (by decide) (Nat.le_of_ble_eq_true rfl) ?_
  intro p e s m args below meth c hx hb hr hml hts htl hown hlocks hK H locs hM hS ls hl
  have hown : s.vm.findClass RX13 = some m.cls := hown
  have hl : lv_has ls 1 [(0, .ref am)] := hl
  have hq_g12 := tk_rng g12
  have hr_g12 : (-1) ≤ g12.toInt ∧ g12.toInt ≤ 7 := by have h9 := hIR.d; unfold dO at h9; rw [hg_0] at h9; omega
  refine lv_aload_n hx hb dX13_isDuel_0 rfl (lv_at hl 0 rfl) ?_
  refine lv_iconst (v := 0) hx hb dX13_isDuel_1 (by decide) ?_
  have hk_0 : (0 : Int32).toInt = 0 := by decide
  refine mz_Vj (As := [.int 0]) (rest := []) ⟨hx, hb, hml, hown, hts⟩ hK hM hS (k_X13_inDuel_0 l D cy ld ad am hD _ _ _ _ g12 hg_0) ⟨callB_of 1 hts (wl_in mw_1046) rfl rfl rfl (htl _ mw_5) (htl _ mw_1043) hd_yX13_inDuel ⟨(Nat.le_of_ble_eq_true rfl), (Nat.le_of_ble_eq_true rfl)⟩, htl _ mw_1044, htl _ mw_1045⟩ rfl hl.1 rfl (Nat.le_of_ble_eq_true rfl) dX13_isDuel_2 ⟨(Nat.le_of_ble_eq_true rfl), (Nat.le_of_ble_eq_true rfl)⟩ (fun v1 H locs hpo hM hS => ?_)
  have hpo2 := hpo
  have hq_v1 := tk_rng v1
  refine lv_iconst (v := (-1)) hx hb dX13_isDuel_5 (by decide) ?_
  refine lv_icmp_eq (tgt := 13) hx hb dX13_isDuel_6 (by decide) (fun c9 => ?_) (fun c9 => ?_)
  · have hc4 : v1.toInt = (-1) := (fi_eq rfl (show ((-1) : Int32).toInt = (-1) by decide)).mp c9
    refine lv_iconst (v := 0) hx hb dX13_isDuel_13 (by decide) ?_
    have hk_0 : (0 : Int32).toInt = 0 := by decide
    exact mz_jret (v := 0) hx hb hr rfl hlocks ⟨(by omega), (by omega), (by omega), (by omega), (by omega), (by omega)⟩ hM hS dX13_isDuel_14
  · have hc4 : ¬ (v1.toInt = (-1)) := fun h9 => c9 ((fi_eq rfl (show ((-1) : Int32).toInt = (-1) by decide)).mpr h9)
    refine lv_iconst (v := 1) hx hb dX13_isDuel_9 (by decide) ?_
    refine lv_goto (tgt := 14) hx hb dX13_isDuel_10 (by decide) ?_
    have hk_1 : (1 : Int32).toInt = 1 := by decide
    exact mz_jret (v := 1) hx hb hr rfl hlocks ⟨(by omega), (by omega), (by omega), (by omega), (by omega), (by omega)⟩ hM hS dX13_isDuel_14
