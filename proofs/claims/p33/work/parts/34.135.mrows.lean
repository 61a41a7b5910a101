theorem hd_yX13_caught : yX13_caught.cls ≠ "java/lang/invoke/MethodHandle" ∧ yX13_caught.cls ≠ "java/lang/invoke/VarHandle" ∧ (parseMethodDescriptor yX13_caught.desc).map (fun d => d.parameters.length) = some 2 := by decide +kernel
theorem dX13_catching_0 : decode cX13_catching 0 = .ok (.aload_n 0, 1) := by decide +kernel
theorem dX13_catching_1 : decode cX13_catching 1 = .ok (.iconst 0, 1) := by decide +kernel
theorem dX13_catching_2 : decode cX13_catching 2 = .ok (.putfield 170, 3) := by decide +kernel
theorem dX13_catching_5 : decode cX13_catching 5 = .ok (.aload_n 0, 1) := by decide +kernel
theorem dX13_catching_6 : decode cX13_catching 6 = .ok (.iload_n 1, 1) := by decide +kernel
theorem dX13_catching_7 : decode cX13_catching 7 = .ok (.invokevirtual 201, 3) := by decide +kernel
theorem dX13_catching_10 : decode cX13_catching 10 = .ok (.ifCond .eq 13, 3) := by decide +kernel
theorem dX13_catching_23 : decode cX13_catching 23 = .ok (.iconst (-1), 1) := by decide +kernel
theorem dX13_catching_24 : decode cX13_catching 24 = .ok (.ireturn, 1) := by decide +kernel
theorem dX13_catching_13 : decode cX13_catching 13 = .ok (.iload_n 2, 1) := by decide +kernel
theorem dX13_catching_14 : decode cX13_catching 14 = .ok (.i2l, 1) := by decide +kernel
theorem dX13_catching_15 : decode cX13_catching 15 = .ok (.lconst 0, 1) := by decide +kernel
theorem dX13_catching_16 : decode cX13_catching 16 = .ok (.lconst 1, 1) := by decide +kernel
theorem dX13_catching_17 : decode cX13_catching 17 = .ok (.invokestatic 190, 3) := by decide +kernel
theorem dX13_catching_20 : decode cX13_catching 20 = .ok (.ifCond .ne 5, 3) := by decide +kernel
theorem dX13_catching_25 : decode cX13_catching 25 = .ok (.aload_n 0, 1) := by decide +kernel
theorem dX13_catching_26 : decode cX13_catching 26 = .ok (.iload_n 1, 1) := by decide +kernel
theorem dX13_catching_27 : decode cX13_catching 27 = .ok (.iconst 0, 1) := by decide +kernel
theorem dX13_catching_28 : decode cX13_catching 28 = .ok (.invokevirtual 587, 3) := by decide +kernel
theorem dX13_catching_31 : decode cX13_catching 31 = .ok (.istore_n 3, 1) := by decide +kernel
theorem dX13_catching_32 : decode cX13_catching 32 = .ok (.iload_n 2, 1) := by decide +kernel
theorem dX13_catching_33 : decode cX13_catching 33 = .ok (.ifCond .ne 7, 3) := by decide +kernel
theorem dX13_catching_40 : decode cX13_catching 40 = .ok (.aload_n 0, 1) := by decide +kernel
theorem dX13_catching_41 : decode cX13_catching 41 = .ok (.getfield 581, 3) := by decide +kernel
theorem dX13_catching_44 : decode cX13_catching 44 = .ok (.ireturn, 1) := by decide +kernel
theorem dX13_catching_36 : decode cX13_catching 36 = .ok (.iload_n 3, 1) := by decide +kernel
theorem dX13_catching_37 : decode cX13_catching 37 = .ok (.goto 7, 3) := by decide +kernel
set_option maxHeartbeats 4000000 in
set_option maxRecDepth 100000 in
theorem k_X13_catching (l : Launch) (D : va_G) (cy : Nat → ClassId) (ld ad : Nat → Nat) (am : Nat) (hD : mz_D ad am) (Fa : Nat → Int32) (Ga : Nat → Int64) (Ra : Nat → Nat → Int32) (Sa : Nat → Nat → Int64) (p1 : Int32) (p2 : Int32) (hIF : mz_IF true Fa) (hIG : mz_IG Ga) (hIR : mz_IR [] true Ra) : Met l yX13_catching (wl yX13_catching cX13_catching 4 (some .int)) ({ frames := 5, cells := 0, slots := 0, locals := 280 }) (mz_p D cy ld ad am Fa Ga Ra Sa [.ref am, .int p1, .int p2]) (mz_i D cy ad am (fun r F G R S => mz_IF true F ∧ mz_IG G ∧ mz_IR [] true R ∧ (∀ k : Nat, k ∉ ([0, 60] : List Nat) → F k = Fa k) ∧ (∀ k : Nat, k ∉ ([] : List Nat) → R k = Ra k) ∧ (∀ k : Nat, k ∉ ([] : List Nat) → G k = Ga k))) 0 0 (mz_W ad am) := by
  refine mz_met (y := yX13_catching) (cc := cX13_catching) (maxL := 4) (ret := (some .int)) (av := [.ref am, .int p1, .int p2]) _ (by decide) (Nat.le_of_ble_eq_true rfl) ?_
  intro p e s m args below meth c hx hb hr hml hts htl hown hlocks hK H locs hM hS ls hl
  have hown : s.vm.findClass RX13 = some m.cls := hown
  have hl : lv_has ls 4 [(0, .ref am), (1, .int p1), (2, .int p2)] := hl
  have hr_p1 := tk_rng p1
  have hr_p2 := tk_rng p2
  refine lv_aload_n hx hb dX13_catching_0 rfl (lv_at hl 0 rfl) ?_
  refine lv_iconst (v := 0) hx hb dX13_catching_1 (by decide) ?_
  have hk_0 : (0 : Int32).toInt = 0 := by decide
  refine mz_putI (ty := .int) (x := 0) hx hb htl hown hK hD hM hS 0 (Nat.le_of_ble_eq_true rfl) rfl (htl _ mw_286) (fun _ h9 => h9) rfl (tyX13_ok 0 (by decide)) rfl rfl dX13_catching_2 (fun H locs F hM hS hf9 hj9 => ?_)
  have hIF := hIF.put hf9 hj9 (tk_rng _).1 (tk_rng _).2 (by decide)
  have hFF := mz_frp (K := [0, 60]) (Fa := Fa) hj9 (fun _ _ => rfl) (by decide)
  have hf2 := hf9
  refine lv_aload_n hx hb dX13_catching_5 rfl (lv_at hl 0 rfl) ?_
  refine lv_iload_n hx hb dX13_catching_6 rfl (lv_at hl 1 rfl) ?_
  refine mz_Vj (As := [.int p1]) (rest := []) ⟨hx, hb, hml, hown, hts⟩ hK hM hS (k_X13_isSinger l D cy ld ad am hD _ _ _ _ p1 (hIF.weak) hIG hIR) ⟨callB_of 1 hts (wl_in mw_320) rfl rfl rfl (htl _ mw_5) (htl _ mw_317) hd_yX13_isSinger ⟨(Nat.le_of_ble_eq_true rfl), (Nat.le_of_ble_eq_true rfl)⟩, htl _ mw_318, htl _ mw_319⟩ rfl hl.1 rfl (Nat.le_of_ble_eq_true rfl) dX13_catching_7 ⟨(Nat.le_of_ble_eq_true rfl), (Nat.le_of_ble_eq_true rfl)⟩ (fun v3 H locs hpo hM hS => ?_)
  obtain ⟨hpo4, hpo5, hpo6, hpo10, hpo11⟩ := hpo
  have hq_v3 := tk_rng v3
  refine lv_if_eq (tgt := 23) hx hb dX13_catching_10 (by decide) (fun c9 => ?_) (fun c9 => ?_)
  · have hc13 : v3.toInt = 0 := (fi_eq rfl (show (0 : Int32).toInt = 0 by decide)).mp c9
    refine lv_iconst (v := (-1)) hx hb dX13_catching_23 (by decide) ?_
    have hk_m1 : ((-1) : Int32).toInt = (-1) := by decide
    exact mz_iret (v := (-1)) hx hb hr rfl hlocks ⟨hIF, hIG, hIR, hFF, (fun _ _ => rfl), (fun _ _ => rfl)⟩ hM hS dX13_catching_24
  · have hc13 : ¬ (v3.toInt = 0) := fun h9 => c9 ((fi_eq rfl (show (0 : Int32).toInt = 0 by decide)).mpr h9)
    have hwk_14 : 0 ≤ p1.toInt ∧ p1.toInt ≤ 7 := by omega
    refine lv_iload_n hx hb dX13_catching_13 rfl (lv_at hl 2 rfl) ?_
    obtain ⟨w15, e_w15, h_w15⟩ : ∃ z : Int64, p2.toInt64 = z ∧ z.toInt = p2.toInt := ⟨_, rfl, fl_w _⟩
    refine lv_i2l (v := w15) hx hb dX13_catching_14 e_w15 ?_
    refine lv_lconst (v := 0) hx hb dX13_catching_15 (by decide) ?_
    refine lv_lconst (v := 1) hx hb dX13_catching_16 (by decide) ?_
    have hk_0 : (0 : Int64).toInt = 0 := by decide
    have hk_1 : (1 : Int64).toInt = 1 := by decide
    refine mz_Sj (As := [.long w15, .long 0, .long 1]) (rest := []) ⟨hx, hb, hml, hown, hts⟩ hK hM hS (k_X13_in l D cy ld ad am hD _ _ _ _ w15 0 1) ⟨callB_of 3 hts (wl_in mw_292) rfl rfl rfl (htl _ mw_5) (htl _ mw_290) hd_yX13_in ⟨(Nat.le_of_ble_eq_true rfl), (Nat.le_of_ble_eq_true rfl)⟩, htl _ mw_291⟩ rfl hl.1 rfl (Nat.le_of_ble_eq_true rfl) dX13_catching_17 ⟨(Nat.le_of_ble_eq_true rfl), (Nat.le_of_ble_eq_true rfl)⟩ (fun v16 H locs hpo hM hS => ?_)
    obtain ⟨hpo17, hpo18, hpo19, hpo20, hpo21, hpo22⟩ := hpo
    have hq_v16 := tk_rng v16
    refine lv_if_ne (tgt := 25) hx hb dX13_catching_20 (by decide) (fun c9 => ?_) (fun c9 => ?_)
    · have hc24 : ¬ (v16.toInt = 0) := fun h9 => c9 ((fi_eq rfl (show (0 : Int32).toInt = 0 by decide)).mpr h9)
      have hwk_25 : 0 ≤ w15.toInt ∧ w15.toInt ≤ 1 := by omega
      refine lv_aload_n hx hb dX13_catching_25 rfl (lv_at hl 0 rfl) ?_
      refine lv_iload_n hx hb dX13_catching_26 rfl (lv_at hl 1 rfl) ?_
      refine lv_iconst (v := 0) hx hb dX13_catching_27 (by decide) ?_
      have hk_0 : (0 : Int32).toInt = 0 := by decide
      refine mz_Vi (As := [.int p1, .int 0]) (rest := []) ⟨hx, hb, hml, hown, hts⟩ hK hM hS (k_X13_caught l D cy ld ad am hD _ _ _ _ p1 0 hIF hIG hIR (by omega) (by omega)) ⟨callB_of 2 hts (wl_in mw_1599) rfl rfl rfl (htl _ mw_5) (htl _ mw_1596) hd_yX13_caught ⟨(Nat.le_of_ble_eq_true rfl), (Nat.le_of_ble_eq_true rfl)⟩, htl _ mw_1597, htl _ mw_1598⟩ rfl hl.1 rfl (Nat.le_of_ble_eq_true rfl) dX13_catching_28 ⟨(Nat.le_of_ble_eq_true rfl), (Nat.le_of_ble_eq_true rfl)⟩ (fun v26 H locs F G R S hpo hM hS => ?_)
      obtain ⟨hIF, hIG, hIR, hfr9, hrr9, hgr9, hpo27, hpo28⟩ := hpo
      have hq_v26 := tk_rng v26
      have hFF := mz_fr (K := [0, 60]) (Fa := Fa) hfr9 hFF (by decide)
      have hRR := mz_fr (K := []) (Fa := Ra) hrr9 (fun _ _ => rfl) (by decide)
      have hGG := mz_fr (K := []) (Fa := Ga) hgr9 (fun _ _ => rfl) (by decide)
      have hf2 := (hfr9 0 (by decide)).trans hf2
      refine lv_istore_n (lv' := [(3, .int v26), (0, .ref am), (1, .int p1), (2, .int p2)]) hx hb dX13_catching_31 rfl hl (by decide) rfl (fun ls hl => ?_)
      refine lv_iload_n hx hb dX13_catching_32 rfl (lv_at hl 3 rfl) ?_
      refine lv_if_ne (tgt := 40) hx hb dX13_catching_33 (by decide) (fun c9 => ?_) (fun c9 => ?_)
      · have hc30 : ¬ (p2.toInt = 0) := fun h9 => c9 ((fi_eq rfl (show (0 : Int32).toInt = 0 by decide)).mpr h9)
        refine lv_aload_n hx hb dX13_catching_40 rfl (lv_at hl 1 rfl) ?_
        refine mz_getI hx hb htl hown hK hM 60 (Nat.le_of_ble_eq_true rfl) rfl (htl _ mw_1595) (fun _ h9 => h9) dX13_catching_41 (fun v32 hf31 => ?_)
        have hq_v32 := tk_rng v32
        exact mz_iret (v := v32) hx hb hr rfl hlocks ⟨hIF, hIG, hIR, hFF, hRR, hGG⟩ hM hS dX13_catching_44
      · have hc30 : p2.toInt = 0 := (fi_eq rfl (show (0 : Int32).toInt = 0 by decide)).mp c9
        refine lv_iload_n hx hb dX13_catching_36 rfl (lv_at hl 0 rfl) ?_
        refine lv_goto (tgt := 44) hx hb dX13_catching_37 (by decide) ?_
        exact mz_iret (v := v26) hx hb hr rfl hlocks ⟨hIF, hIG, hIR, hFF, hRR, hGG⟩ hM hS dX13_catching_44
    · have hc24 : v16.toInt = 0 := (fi_eq rfl (show (0 : Int32).toInt = 0 by decide)).mp c9
      refine lv_iconst (v := (-1)) hx hb dX13_catching_23 (by decide) ?_
      have hk_m1 : ((-1) : Int32).toInt = (-1) := by decide
      exact mz_iret (v := (-1)) hx hb hr rfl hlocks ⟨hIF, hIG, hIR, hFF, (fun _ _ => rfl), (fun _ _ => rfl)⟩ hM hS dX13_catching_24
