theorem hd_yX13_within : yX13_within.cls ≠ "java/lang/invoke/MethodHandle" ∧ yX13_within.cls ≠ "java/lang/invoke/VarHandle" ∧ (parseMethodDescriptor yX13_within.desc).map (fun d => d.parameters.length) = some 3 := by decide +kernel
theorem dX13_giveCows_0 : decode cX13_giveCows 0 = .ok (.aload_n 0, 1) := by decide +kernel
theorem dX13_giveCows_1 : decode cX13_giveCows 1 = .ok (.getfield 13, 3) := by decide +kernel
theorem dX13_giveCows_4 : decode cX13_giveCows 4 = .ok (.bipush 11, 2) := by decide +kernel
theorem dX13_giveCows_6 : decode cX13_giveCows 6 = .ok (.iload_n 1, 1) := by decide +kernel
theorem dX13_giveCows_7 : decode cX13_giveCows 7 = .ok (.isub, 1) := by decide +kernel
theorem dX13_giveCows_8 : decode cX13_giveCows 8 = .ok (.iaload, 1) := by decide +kernel
theorem dX13_giveCows_9 : decode cX13_giveCows 9 = .ok (.istore_n 3, 1) := by decide +kernel
theorem dX13_giveCows_10 : decode cX13_giveCows 10 = .ok (.iload_n 2, 1) := by decide +kernel
theorem dX13_giveCows_11 : decode cX13_giveCows 11 = .ok (.iload_n 3, 1) := by decide +kernel
theorem dX13_giveCows_20 : decode cX13_giveCows 20 = .ok (.istore 4, 2) := by decide +kernel
theorem dX13_giveCows_22 : decode cX13_giveCows 22 = .ok (.aload_n 0, 1) := by decide +kernel
theorem dX13_giveCows_23 : decode cX13_giveCows 23 = .ok (.getfield 13, 3) := by decide +kernel
theorem dX13_giveCows_26 : decode cX13_giveCows 26 = .ok (.bipush 11, 2) := by decide +kernel
theorem dX13_giveCows_28 : decode cX13_giveCows 28 = .ok (.iload_n 1, 1) := by decide +kernel
theorem dX13_giveCows_29 : decode cX13_giveCows 29 = .ok (.isub, 1) := by decide +kernel
theorem dX13_giveCows_30 : decode cX13_giveCows 30 = .ok (.dup2, 1) := by decide +kernel
theorem dX13_giveCows_31 : decode cX13_giveCows 31 = .ok (.iaload, 1) := by decide +kernel
theorem dX13_giveCows_32 : decode cX13_giveCows 32 = .ok (.iload 4, 2) := by decide +kernel
theorem dX13_giveCows_34 : decode cX13_giveCows 34 = .ok (.isub, 1) := by decide +kernel
theorem dX13_giveCows_35 : decode cX13_giveCows 35 = .ok (.iastore, 1) := by decide +kernel
theorem dX13_giveCows_36 : decode cX13_giveCows 36 = .ok (.aload_n 0, 1) := by decide +kernel
theorem dX13_giveCows_37 : decode cX13_giveCows 37 = .ok (.getfield 13, 3) := by decide +kernel
theorem dX13_giveCows_40 : decode cX13_giveCows 40 = .ok (.bipush 10, 2) := by decide +kernel
theorem dX13_giveCows_42 : decode cX13_giveCows 42 = .ok (.iload_n 1, 1) := by decide +kernel
theorem dX13_giveCows_43 : decode cX13_giveCows 43 = .ok (.iadd, 1) := by decide +kernel
theorem dX13_giveCows_44 : decode cX13_giveCows 44 = .ok (.aload_n 0, 1) := by decide +kernel
theorem dX13_giveCows_45 : decode cX13_giveCows 45 = .ok (.getfield 13, 3) := by decide +kernel
theorem dX13_giveCows_48 : decode cX13_giveCows 48 = .ok (.bipush 10, 2) := by decide +kernel
theorem dX13_giveCows_50 : decode cX13_giveCows 50 = .ok (.iload_n 1, 1) := by decide +kernel
theorem dX13_giveCows_51 : decode cX13_giveCows 51 = .ok (.iadd, 1) := by decide +kernel
theorem dX13_giveCows_52 : decode cX13_giveCows 52 = .ok (.iaload, 1) := by decide +kernel
theorem dX13_giveCows_53 : decode cX13_giveCows 53 = .ok (.iload 4, 2) := by decide +kernel
theorem dX13_giveCows_55 : decode cX13_giveCows 55 = .ok (.iadd, 1) := by decide +kernel
theorem dX13_giveCows_56 : decode cX13_giveCows 56 = .ok (.i2l, 1) := by decide +kernel
theorem dX13_giveCows_57 : decode cX13_giveCows 57 = .ok (.iconst 0, 1) := by decide +kernel
theorem dX13_giveCows_58 : decode cX13_giveCows 58 = .ok (.sipush 9999, 3) := by decide +kernel
theorem dX13_giveCows_61 : decode cX13_giveCows 61 = .ok (.invokestatic 421, 3) := by decide +kernel
theorem dX13_giveCows_64 : decode cX13_giveCows 64 = .ok (.iastore, 1) := by decide +kernel
theorem dX13_giveCows_65 : decode cX13_giveCows 65 = .ok (.return_, 1) := by decide +kernel
theorem dX13_giveCows_12 : decode cX13_giveCows 12 = .ok (.if_icmp .ge 7, 3) := by decide +kernel
theorem dX13_giveCows_19 : decode cX13_giveCows 19 = .ok (.iload_n 3, 1) := by decide +kernel
theorem dX13_giveCows_15 : decode cX13_giveCows 15 = .ok (.iload_n 2, 1) := by decide +kernel
theorem dX13_giveCows_16 : decode cX13_giveCows 16 = .ok (.goto 4, 3) := by decide +kernel
set_option maxHeartbeats 4000000 in
set_option maxRecDepth 100000 in
theorem k_X13_giveCows (l : Launch) (D : va_G) (cy : Nat → ClassId) (ld ad : Nat → Nat) (am : Nat) (hD : mz_D ad am) (Fa : Nat → Int32) (Ga : Nat → Int64) (Ra : Nat → Nat → Int32) (Sa : Nat → Nat → Int64) (p1 : Int32) (p2 : Int32) (hIF : mz_IF true Fa) (hIG : mz_IG Ga) (hIR : mz_IR [] true Ra) (hp_0 : 0 ≤ p1.toInt) (hp_1 : p1.toInt ≤ 1) : Met l yX13_giveCows (wl yX13_giveCows cX13_giveCows 5 none) ({ frames := 4, cells := 0, slots := 0, locals := 210 }) (mz_p D cy ld ad am Fa Ga Ra Sa [.ref am, .int p1, .int p2]) (mz_w D cy ad am (fun F G R S => mz_IF true F ∧ mz_IG G ∧ mz_IR [] true R ∧ (∀ k : Nat, k ∉ ([] : List Nat) → F k = Fa k) ∧ (∀ k : Nat, k ∉ ([3] : List Nat) → R k = Ra k) ∧ (∀ k : Nat, k ∉ ([] : List Nat) → G k = Ga k) ∧ rK2 (Ra 3) (R 3))) 0 0 (mz_W ad am) := by
  refine mz_met (y := yX13_giveCows) (cc := cX13_giveCows) (maxL := 5) (ret := none) (av := [.ref am, .int p1, .int p2]) _ (by decide) (Nat.le_of_ble_eq_true rfl) ?_
  intro p e s m args below meth c hx hb hr hml hts htl hown hlocks hK H locs hM hS ls hl
  have hown : s.vm.findClass RX13 = some m.cls := hown
  have hl : lv_has ls 5 [(0, .ref am), (1, .int p1), (2, .int p2)] := hl
  have hr_p1 := tk_rng p1
  have hr_p2 := tk_rng p2
  refine lv_aload_n hx hb dX13_giveCows_0 rfl (lv_at hl 0 rfl) ?_
  refine mz_getR hx hb htl hown hK hM 3 (Nat.le_of_ble_eq_true rfl) (Nat.le_of_ble_eq_true rfl) (htl _ mw_188) (fun _ h9 => h9) dX13_giveCows_1 ?_
  refine lv_bipush (v := 11) hx hb dX13_giveCows_4 (by decide) ?_
  refine lv_iload_n hx hb dX13_giveCows_6 rfl (lv_at hl 1 rfl) ?_
  refine lv_isub hx hb dX13_giveCows_7 ?_
  refine tk_sub (show (11 : Int32).toInt = 11 by decide) rfl (by omega) (by omega) (fun v1 h_v1 => ?_)
  refine mz_iald hx hb hK hM 3 (Nat.le_of_ble_eq_true rfl) rfl (nn := 5560) rfl rfl (by omega) (by omega) dX13_giveCows_8 (fun v2 e_v2 => ?_)
  have hq_v2 := tk_rng v2
  refine lv_istore_n (lv' := [(3, .int v2), (0, .ref am), (1, .int p1), (2, .int p2)]) hx hb dX13_giveCows_9 rfl hl (by decide) rfl (fun ls hl => ?_)
  refine lv_iload_n hx hb dX13_giveCows_10 rfl (lv_at hl 3 rfl) ?_
  refine lv_iload_n hx hb dX13_giveCows_11 rfl (lv_at hl 0 rfl) ?_
  have hj6 : ∀ (v5 : Int32), (0 ≤ v2.toInt + (-1) * v5.toInt) → (0 ≤ p2.toInt + (-1) * v5.toInt) → ∀ ls : Array Slot, lv_has ls 5 [(0, .ref am), (1, .int p1)] → W p l e ({ frames := 4, cells := 0, slots := 0, locals := 210 }) s m args below meth c H locs 0 0 (MQ below (mz_w D cy ad am (fun F G R S => mz_IF true F ∧ mz_IG G ∧ mz_IR [] true R ∧ (∀ k : Nat, k ∉ ([] : List Nat) → F k = Fa k) ∧ (∀ k : Nat, k ∉ ([3] : List Nat) → R k = Ra k) ∧ (∀ k : Nat, k ∉ ([] : List Nat) → G k = Ga k) ∧ rK2 (Ra 3) (R 3))) args s 0 0 (mz_W ad am)) (F0 m 20 ls [.int v5]) := by
    intro v5 hq0_j6 hq1_j6 ls hl
    refine lv_istore (lv' := [(4, .int v5), (0, .ref am), (1, .int p1)]) hx hb dX13_giveCows_20 hl (by decide) rfl (fun ls hl => ?_)
    refine lv_aload_n hx hb dX13_giveCows_22 rfl (lv_at hl 1 rfl) ?_
    refine mz_getR hx hb htl hown hK hM 3 (Nat.le_of_ble_eq_true rfl) (Nat.le_of_ble_eq_true rfl) (htl _ mw_188) (fun _ h9 => h9) dX13_giveCows_23 ?_
    refine lv_bipush (v := 11) hx hb dX13_giveCows_26 (by decide) ?_
    refine lv_iload_n hx hb dX13_giveCows_28 rfl (lv_at hl 2 rfl) ?_
    refine lv_isub hx hb dX13_giveCows_29 ?_
    refine tk_sub (show (11 : Int32).toInt = 11 by decide) rfl (by omega) (by omega) (fun v7 h_v7 => ?_)
    refine lv_dup2_11 hx hb dX13_giveCows_30 rfl rfl ?_
    refine mz_iald hx hb hK hM 3 (Nat.le_of_ble_eq_true rfl) rfl (nn := 5560) rfl rfl (by omega) (by omega) dX13_giveCows_31 (fun v8 e_v8 => ?_)
    have hq_v8 := tk_rng v8
    refine lv_iload hx hb dX13_giveCows_32 (lv_at hl 0 rfl) ?_
    refine lv_isub hx hb dX13_giveCows_34 ?_
    obtain ⟨v9, hm_v9⟩ : ∃ z : Int32, v8 - v5 = z := ⟨_, rfl⟩
    refine fx_ti hm_v9 ?_
    refine mz_iast (x := v9) hx hb hK hD hM hS 3 (Nat.le_of_ble_eq_true rfl) rfl (nn := 5560) rfl rfl (by omega) (by omega) dX13_giveCows_35 (fun H locs R hM hS hw9 hj9 => ?_)
    have hIR := hIR.put hw9 hj9 (mz_r3 (hIR.at 3) (I := v7.toInt) rfl (by omega) (by omega) (fun h9 => by first | (cases h9; done) | omega) (by unfold mE; omega))
    have hRR := mz_frp (K := [3]) (Fa := Ra) hj9 (fun _ _ => rfl) (by decide)
    have hrel := rK2.put (I := v7.toInt) (rK2.refl rfl) hw9 rfl (by omega) (by omega) (by omega)
    refine lv_aload_n hx hb dX13_giveCows_36 rfl (lv_at hl 1 rfl) ?_
    refine mz_getR hx hb htl hown hK hM 3 (Nat.le_of_ble_eq_true rfl) (Nat.le_of_ble_eq_true rfl) (htl _ mw_188) (fun _ h9 => h9) dX13_giveCows_37 ?_
    refine lv_bipush (v := 10) hx hb dX13_giveCows_40 (by decide) ?_
    refine lv_iload_n hx hb dX13_giveCows_42 rfl (lv_at hl 2 rfl) ?_
    refine lv_iadd hx hb dX13_giveCows_43 ?_
    refine tk_add (show (10 : Int32).toInt = 10 by decide) rfl (by omega) (by omega) (fun v11 h_v11 => ?_)
    refine lv_aload_n hx hb dX13_giveCows_44 rfl (lv_at hl 1 rfl) ?_
    refine mz_getR hx hb htl hown hK hM 3 (Nat.le_of_ble_eq_true rfl) (Nat.le_of_ble_eq_true rfl) (htl _ mw_188) (fun _ h9 => h9) dX13_giveCows_45 ?_
    refine lv_bipush (v := 10) hx hb dX13_giveCows_48 (by decide) ?_
    refine lv_iload_n hx hb dX13_giveCows_50 rfl (lv_at hl 2 rfl) ?_
    refine lv_iadd hx hb dX13_giveCows_51 ?_
    refine tk_add (show (10 : Int32).toInt = 10 by decide) rfl (by omega) (by omega) (fun v12 h_v12 => ?_)
    refine mz_iald hx hb hK hM 3 (Nat.le_of_ble_eq_true rfl) rfl (nn := 5560) rfl rfl (by omega) (by omega) dX13_giveCows_52 (fun v13 e_v13 => ?_)
    have hq_v13 := tk_rng v13
    refine lv_iload hx hb dX13_giveCows_53 (lv_at hl 0 rfl) ?_
    refine lv_iadd hx hb dX13_giveCows_55 ?_
    obtain ⟨v14, hm_v14⟩ : ∃ z : Int32, v13 + v5 = z := ⟨_, rfl⟩
    refine fx_ti hm_v14 ?_
    obtain ⟨w15, e_w15, h_w15⟩ : ∃ z : Int64, v14.toInt64 = z ∧ z.toInt = v14.toInt := ⟨_, rfl, fl_w _⟩
    refine lv_i2l (v := w15) hx hb dX13_giveCows_56 e_w15 ?_
    refine lv_iconst (v := 0) hx hb dX13_giveCows_57 (by decide) ?_
    refine lv_sipush (v := 9999) hx hb dX13_giveCows_58 (by decide) ?_
    have hk_0 : (0 : Int32).toInt = 0 := by decide
    have hk_9999 : (9999 : Int32).toInt = 9999 := by decide
    refine mz_Sj (As := [.long w15, .int 0, .int 9999]) (rest := [.int v11, .ref (ad 3)]) ⟨hx, hb, hml, hown, hts⟩ hK hM hS (k_X13_within l D cy ld ad am hD _ _ _ _ w15 0 9999 (by omega)) ⟨callB_of 3 hts (wl_in mw_1125) rfl rfl rfl (htl _ mw_5) (htl _ mw_1123) hd_yX13_within ⟨(Nat.le_of_ble_eq_true rfl), (Nat.le_of_ble_eq_true rfl)⟩, htl _ mw_1124⟩ rfl hl.1 rfl (Nat.le_of_ble_eq_true rfl) dX13_giveCows_61 ⟨(Nat.le_of_ble_eq_true rfl), (Nat.le_of_ble_eq_true rfl)⟩ (fun v16 H locs hpo hM hS => ?_)
    obtain ⟨hpo17, hpo18⟩ := hpo
    have hq_v16 := tk_rng v16
    refine mz_iast (x := v16) hx hb hK hD hM hS 3 (Nat.le_of_ble_eq_true rfl) rfl (nn := 5560) rfl rfl (by omega) (by omega) dX13_giveCows_64 (fun H locs R hM hS hw9 hj9 => ?_)
    have hIR := hIR.put hw9 hj9 (mz_r3 (hIR.at 3) (I := v11.toInt) rfl (by omega) (by omega) (fun h9 => by first | (cases h9; done) | omega) (by unfold mE; omega))
    have hRR := mz_frp (K := [3]) (Fa := Ra) hj9 hRR (by decide)
    have hrel := rK2.put (I := v11.toInt) hrel hw9 rfl (by omega) (by omega) (by omega)
    exact mz_vret hx hb hr hlocks ⟨hIF, hIG, hIR, (fun _ _ => rfl), hRR, (fun _ _ => rfl), hrel⟩ hM hS dX13_giveCows_65
  refine lv_icmp_ge (tgt := 19) hx hb dX13_giveCows_12 (by decide) (fun c9 => ?_) (fun c9 => ?_)
  · have hc3 : v2.toInt ≤ p2.toInt := (fi_le rfl rfl).mp c9
    refine lv_iload_n hx hb dX13_giveCows_19 rfl (lv_at hl 0 rfl) ?_
    exact hj6 v2 (by omega) (by omega) _ (lv_sub hl [1, 2] rfl)
  · have hc3 : ¬ (v2.toInt ≤ p2.toInt) := fun h9 => c9 ((fi_le rfl rfl).mpr h9)
    refine lv_iload_n hx hb dX13_giveCows_15 rfl (lv_at hl 3 rfl) ?_
    refine lv_goto (tgt := 20) hx hb dX13_giveCows_16 (by decide) ?_
    exact hj6 p2 (by omega) (by omega) _ (lv_sub hl [1, 2] rfl)
