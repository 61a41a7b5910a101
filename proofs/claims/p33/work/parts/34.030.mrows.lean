theorem dX13_row_0 : decode cX13_row 0 = .ok (.aload_n 0, 1) := by decide +kernel
theorem dX13_row_1 : decode cX13_row 1 = .ok (.iconst 0, 1) := by decide +kernel
theorem dX13_row_2 : decode cX13_row 2 = .ok (.putfield 170, 3) := by decide +kernel
theorem dX13_row_5 : decode cX13_row 5 = .ok (.aload_n 0, 1) := by decide +kernel
theorem dX13_row_6 : decode cX13_row 6 = .ok (.getfield 224, 3) := by decide +kernel
theorem dX13_row_9 : decode cX13_row 9 = .ok (.istore_n 1, 1) := by decide +kernel
theorem dX13_row_10 : decode cX13_row 10 = .ok (.aload_n 0, 1) := by decide +kernel
theorem dX13_row_11 : decode cX13_row 11 = .ok (.iconst 0, 1) := by decide +kernel
theorem dX13_row_12 : decode cX13_row 12 = .ok (.putfield 224, 3) := by decide +kernel
theorem dX13_row_15 : decode cX13_row 15 = .ok (.iload_n 1, 1) := by decide +kernel
theorem dX13_row_16 : decode cX13_row 16 = .ok (.ifCond .ne 10, 3) := by decide +kernel
theorem dX13_row_26 : decode cX13_row 26 = .ok (.aload_n 0, 1) := by decide +kernel
theorem dX13_row_27 : decode cX13_row 27 = .ok (.iconst 0, 1) := by decide +kernel
theorem dX13_row_28 : decode cX13_row 28 = .ok (.putfield 227, 3) := by decide +kernel
theorem dX13_row_31 : decode cX13_row 31 = .ok (.iconst 0, 1) := by decide +kernel
theorem dX13_row_32 : decode cX13_row 32 = .ok (.istore_n 2, 1) := by decide +kernel
theorem dX13_row_33 : decode cX13_row 33 = .ok (.iconst 0, 1) := by decide +kernel
theorem dX13_row_34 : decode cX13_row 34 = .ok (.istore_n 3, 1) := by decide +kernel
theorem dX13_row_35 : decode cX13_row 35 = .ok (.iload_n 3, 1) := by decide +kernel
theorem dX13_row_36 : decode cX13_row 36 = .ok (.iload_n 1, 1) := by decide +kernel
theorem dX13_row_37 : decode cX13_row 37 = .ok (.if_icmp .ge 53, 3) := by decide +kernel
theorem dX13_row_90 : decode cX13_row 90 = .ok (.aload_n 0, 1) := by decide +kernel
theorem dX13_row_91 : decode cX13_row 91 = .ok (.iload_n 2, 1) := by decide +kernel
theorem dX13_row_92 : decode cX13_row 92 = .ok (.invokevirtual 183, 3) := by decide +kernel
theorem dX13_row_95 : decode cX13_row 95 = .ok (.ireturn, 1) := by decide +kernel
theorem dX13_row_40 : decode cX13_row 40 = .ok (.iload_n 3, 1) := by decide +kernel
theorem dX13_row_41 : decode cX13_row 41 = .ok (.iconst 1, 1) := by decide +kernel
theorem dX13_row_42 : decode cX13_row 42 = .ok (.iadd, 1) := by decide +kernel
theorem dX13_row_43 : decode cX13_row 43 = .ok (.iload_n 1, 1) := by decide +kernel
theorem dX13_row_84 : decode cX13_row 84 = .ok (.iinc 3 2, 3) := by decide +kernel
theorem dX13_row_87 : decode cX13_row 87 = .ok (.goto (-52), 3) := by decide +kernel
theorem dX13_row_44 : decode cX13_row 44 = .ok (.if_icmp .ge 30, 3) := by decide +kernel
theorem dX13_row_74 : decode cX13_row 74 = .ok (.aload_n 0, 1) := by decide +kernel
theorem dX13_row_75 : decode cX13_row 75 = .ok (.dup, 1) := by decide +kernel
theorem dX13_row_76 : decode cX13_row 76 = .ok (.getfield 227, 3) := by decide +kernel
theorem dX13_row_79 : decode cX13_row 79 = .ok (.iconst 1, 1) := by decide +kernel
theorem dX13_row_80 : decode cX13_row 80 = .ok (.iadd, 1) := by decide +kernel
theorem dX13_row_81 : decode cX13_row 81 = .ok (.putfield 227, 3) := by decide +kernel
theorem dX13_row_47 : decode cX13_row 47 = .ok (.aload_n 0, 1) := by decide +kernel
theorem dX13_row_48 : decode cX13_row 48 = .ok (.aload_n 0, 1) := by decide +kernel
theorem dX13_row_49 : decode cX13_row 49 = .ok (.getfield 35, 3) := by decide +kernel
theorem dX13_row_52 : decode cX13_row 52 = .ok (.iload_n 3, 1) := by decide +kernel
theorem dX13_row_53 : decode cX13_row 53 = .ok (.iaload, 1) := by decide +kernel
theorem dX13_row_54 : decode cX13_row 54 = .ok (.aload_n 0, 1) := by decide +kernel
theorem dX13_row_55 : decode cX13_row 55 = .ok (.getfield 35, 3) := by decide +kernel
theorem dX13_row_58 : decode cX13_row 58 = .ok (.iload_n 3, 1) := by decide +kernel
theorem dX13_row_59 : decode cX13_row 59 = .ok (.iconst 1, 1) := by decide +kernel
theorem dX13_row_60 : decode cX13_row 60 = .ok (.iadd, 1) := by decide +kernel
theorem dX13_row_61 : decode cX13_row 61 = .ok (.iaload, 1) := by decide +kernel
theorem dX13_row_62 : decode cX13_row 62 = .ok (.invokevirtual 213, 3) := by decide +kernel
theorem dX13_row_65 : decode cX13_row 65 = .ok (.ifCond .lt 9, 3) := by decide +kernel
theorem dX13_row_68 : decode cX13_row 68 = .ok (.iinc 2 1, 3) := by decide +kernel
theorem dX13_row_71 : decode cX13_row 71 = .ok (.goto 13, 3) := by decide +kernel
theorem dX13_row_19 : decode cX13_row 19 = .ok (.aload_n 0, 1) := by decide +kernel
theorem dX13_row_20 : decode cX13_row 20 = .ok (.bipush (-6), 2) := by decide +kernel
theorem dX13_row_22 : decode cX13_row 22 = .ok (.invokevirtual 183, 3) := by decide +kernel
theorem dX13_row_25 : decode cX13_row 25 = .ok (.ireturn, 1) := by decide +kernel
set_option maxHeartbeats 4000000 in
set_option maxRecDepth 100000 in
theorem k_X13_row (l : Launch) (D : va_G) (cy : Nat → ClassId) (ld ad : Nat → Nat) (am : Nat) (hD : mz_D ad am) (Fa : Nat → Int32) (Ga : Nat → Int64) (Ra : Nat → Nat → Int32) (Sa : Nat → Nat → Int64) (hIF : mz_IF true Fa) (hIG : mz_IG Ga) (hIR : mz_IR [] true Ra) : Met l yX13_row (wl yX13_row cX13_row 4 (some .int)) ({ frames := 5, cells := 0, slots := 0, locals := 280 }) (mz_p D cy ld ad am Fa Ga Ra Sa [.ref am]) (mz_i D cy ad am (fun r F G R S => mz_IF true F ∧ mz_IG G ∧ mz_IR [] true R ∧ (∀ k : Nat, k ∉ ([0, 1, 11, 13] : List Nat) → F k = Fa k) ∧ (∀ k : Nat, k ∉ ([2, 3] : List Nat) → R k = Ra k) ∧ (∀ k : Nat, k ∉ ([] : List Nat) → G k = Ga k) ∧ (-6) ≤ r.toInt ∧ r.toInt ≤ 399)) 0 0 (mz_W ad am) := by
  refine mz_met (y := yX13_row) (cc := cX13_row) (maxL := 4) (ret := (some .int)) (av := [.ref am]) _ (by decide) (Nat.le_of_ble_eq_true rfl) ?_
  intro p e s m args below meth c hx hb hr hml hts htl hown hlocks hK H locs hM hS ls hl
  have hown : s.vm.findClass RX13 = some m.cls := hown
  have hl : lv_has ls 4 [(0, .ref am)] := hl
  refine lv_aload_n hx hb dX13_row_0 rfl (lv_at hl 0 rfl) ?_
  refine lv_iconst (v := 0) hx hb dX13_row_1 (by decide) ?_
  have hk_0 : (0 : Int32).toInt = 0 := by decide
  refine mz_putI (ty := .int) (x := 0) hx hb htl hown hK hD hM hS 0 (Nat.le_of_ble_eq_true rfl) rfl (htl _ mw_286) (fun _ h9 => h9) rfl (tyX13_ok 0 (by decide)) rfl rfl dX13_row_2 (fun H locs F hM hS hf9 hj9 => ?_)
  have hIF := hIF.put hf9 hj9 (tk_rng _).1 (tk_rng _).2 (by decide)
  have hFF := mz_frp (K := [0, 1, 11, 13]) (Fa := Fa) hj9 (fun _ _ => rfl) (by decide)
  have hf2 := hf9
  refine lv_aload_n hx hb dX13_row_5 rfl (lv_at hl 0 rfl) ?_
  refine mz_getI hx hb htl hown hK hM 13 (Nat.le_of_ble_eq_true rfl) rfl (htl _ mw_431) (fun _ h9 => h9) dX13_row_6 (fun v4 hf3 => ?_)
  have hq_v4 := tk_rng v4
  have hr_v4 : 0 ≤ v4.toInt ∧ v4.toInt ≤ 400 := hIF.at hf3
  refine lv_istore_n (lv' := [(1, .int v4), (0, .ref am)]) hx hb dX13_row_9 rfl hl (by decide) rfl (fun ls hl => ?_)
  refine lv_aload_n hx hb dX13_row_10 rfl (lv_at hl 1 rfl) ?_
  refine lv_iconst (v := 0) hx hb dX13_row_11 (by decide) ?_
  have hk_0 : (0 : Int32).toInt = 0 := by decide
  have hk_0 : (0 : Int32).toInt = 0 := by decide
  refine mz_putI (ty := .int) (x := 0) hx hb htl hown hK hD hM hS 13 (Nat.le_of_ble_eq_true rfl) rfl (htl _ mw_431) (fun _ h9 => h9) rfl (tyX13_ok 13 (by decide)) rfl rfl dX13_row_12 (fun H locs F hM hS hf9 hj9 => ?_)
  have hIF := hIF.put hf9 hj9 (show 0 ≤ (0 : Int32).toInt by omega) (show (0 : Int32).toInt ≤ 400 by omega) (by decide)
  have hFF := mz_frp (K := [0, 1, 11, 13]) (Fa := Fa) hj9 hFF (by decide)
  have hf2 := (hj9 0 (by decide)).trans hf2
  have hf6 := hf9
  refine lv_iload_n hx hb dX13_row_15 rfl (lv_at hl 0 rfl) ?_
  refine lv_if_ne (tgt := 26) hx hb dX13_row_16 (by decide) (fun c9 => ?_) (fun c9 => ?_)
  · have hc10 : ¬ (v4.toInt = 0) := fun h9 => c9 ((fi_eq rfl (show (0 : Int32).toInt = 0 by decide)).mpr h9)
    refine lv_aload_n hx hb dX13_row_26 rfl (lv_at hl 1 rfl) ?_
    refine lv_iconst (v := 0) hx hb dX13_row_27 (by decide) ?_
    have hk_0 : (0 : Int32).toInt = 0 := by decide
    refine mz_putI (ty := .int) (x := 0) hx hb htl hown hK hD hM hS 11 (Nat.le_of_ble_eq_true rfl) rfl (htl _ mw_453) (fun _ h9 => h9) rfl (tyX13_ok 11 (by decide)) rfl rfl dX13_row_28 (fun H locs F hM hS hf9 hj9 => ?_)
    have hIF := hIF.put hf9 hj9 (tk_rng _).1 (tk_rng _).2 (by decide)
    have hFF := mz_frp (K := [0, 1, 11, 13]) (Fa := Fa) hj9 hFF (by decide)
    have hf2 := (hj9 0 (by decide)).trans hf2
    have hf6 := (hj9 13 (by decide)).trans hf6
    have hf12 := hf9
    refine lv_iconst (v := 0) hx hb dX13_row_31 (by decide) ?_
    refine lv_istore_n (lv' := [(2, .int 0), (1, .int v4), (0, .ref am)]) hx hb dX13_row_32 rfl hl (by decide) rfl (fun ls hl => ?_)
    refine lv_iconst (v := 0) hx hb dX13_row_33 (by decide) ?_
    refine lv_istore_n (lv' := [(3, .int 0), (2, .int 0), (1, .int v4), (0, .ref am)]) hx hb dX13_row_34 rfl hl (by decide) rfl (fun ls hl => ?_)
    have hl971 : ∀ (N_l971 : Nat) (v171 : Int32) (v172 : Int32) (v173 : Int32) (H : Heap) (locs : List Loc) (F : Nat → Int32) (G : Nat → Int64) (R : Nat → Nat → Int32) (S : Nat → Nat → Int64), (0 ≤ (-1) * v171.toInt + v4.toInt + 1) → (0 ≤ (-1) * v173.toInt + v4.toInt) → (0 ≤ v172.toInt) → (0 ≤ v173.toInt) → (0 ≤ v171.toInt + (-1) * v172.toInt) → (0 ≤ v171.toInt + (-1) * v173.toInt) → (0 ≤ (-1) * v172.toInt + v4.toInt + (-1)) → (mz_S D cy ad am F G R S H) → (va_S (mz_W ad am) s.heap H locs) → (mz_IF true F) → (mz_IG G) → (mz_IR [] true R) → (∀ k : Nat, k ∉ ([0, 1, 11, 13] : List Nat) → F k = Fa k) → (∀ k : Nat, k ∉ ([] : List Nat) → G k = Ga k) → (∀ k : Nat, k ∉ ([2, 3] : List Nat) → R k = Ra k) → (F 0 = 0) → (F 13 = 0) → (F 11 = v173) → ((-1) * v171.toInt + 401 < (N_l971 : Int)) → ∀ ls : Array Slot, lv_has ls 4 [(3, .int v171), (2, .int v172), (1, .int v4), (0, .ref am)] → W p l e ({ frames := 5, cells := 0, slots := 0, locals := 280 }) s m args below meth c H locs 0 0 (MQ below (mz_i D cy ad am (fun r F G R S => mz_IF true F ∧ mz_IG G ∧ mz_IR [] true R ∧ (∀ k : Nat, k ∉ ([0, 1, 11, 13] : List Nat) → F k = Fa k) ∧ (∀ k : Nat, k ∉ ([2, 3] : List Nat) → R k = Ra k) ∧ (∀ k : Nat, k ∉ ([] : List Nat) → G k = Ga k) ∧ (-6) ≤ r.toInt ∧ r.toInt ≤ 399)) args s 0 0 (mz_W ad am)) (F0 m 35 ls []) := by
      intro N_l971
      induction N_l971 with
      | zero => intro v171 v172 v173 H locs F G R S hq0_l971 hq1_l971 hq2_l971 hq3_l971 hq4_l971 hq5_l971 hq6_l971 hM hS hIF hIG hIR hFF hGG hRR hf2 hf6 hf12 hm_l971 ls hl; exfalso; omega
      | succ N_l971 ih_l971 =>
        intro v171 v172 v173 H locs F G R S hq0_l971 hq1_l971 hq2_l971 hq3_l971 hq4_l971 hq5_l971 hq6_l971 hM hS hIF hIG hIR hFF hGG hRR hf2 hf6 hf12 hm_l971 ls hl
        refine lv_iload_n hx hb dX13_row_35 rfl (lv_at hl 0 rfl) ?_
        refine lv_iload_n hx hb dX13_row_36 rfl (lv_at hl 2 rfl) ?_
        refine lv_icmp_ge (tgt := 90) hx hb dX13_row_37 (by decide) (fun c9 => ?_) (fun c9 => ?_)
        · have hc972 : v4.toInt ≤ v171.toInt := (fi_le rfl rfl).mp c9
          refine lv_aload_n hx hb dX13_row_90 rfl (lv_at hl 3 rfl) ?_
          refine lv_iload_n hx hb dX13_row_91 rfl (lv_at hl 1 rfl) ?_
          refine mz_Vi (As := [.int v172]) (rest := []) ⟨hx, hb, hml, hown, hts⟩ hK hM hS (k_X13_tell l D cy ld ad am hD _ _ _ _ v172 hIF hIG hIR (by omega) (by omega)) ⟨callB_of 1 hts (wl_in mw_296) rfl rfl rfl (htl _ mw_5) (htl _ mw_293) hd_yX13_tell ⟨(Nat.le_of_ble_eq_true rfl), (Nat.le_of_ble_eq_true rfl)⟩, htl _ mw_294, htl _ mw_295⟩ rfl hl.1 rfl (Nat.le_of_ble_eq_true rfl) dX13_row_92 ⟨(Nat.le_of_ble_eq_true rfl), (Nat.le_of_ble_eq_true rfl)⟩ (fun v1013 H locs F G R S hpo hM hS => ?_)
          obtain ⟨hIF, hIG, hIR, hfr9, hrr9, hgr9, hpo1014⟩ := hpo
          have hq_v1013 := tk_rng v1013
          have hFF := mz_fr (K := [0, 1, 11, 13]) (Fa := Fa) hfr9 hFF (by decide)
          have hRR := mz_fr (K := [2, 3]) (Fa := Ra) hrr9 hRR (by decide)
          have hGG := mz_fr (K := []) (Fa := Ga) hgr9 hGG (by decide)
          have hf2 := (hfr9 0 (by decide)).trans hf2
          have hf6 := (hfr9 13 (by decide)).trans hf6
          have hf12 := (hfr9 11 (by decide)).trans hf12
          exact mz_iret (v := v1013) hx hb hr rfl hlocks ⟨hIF, hIG, hIR, hFF, hRR, hGG, (by omega), (by omega)⟩ hM hS dX13_row_95
        · have hc972 : ¬ (v4.toInt ≤ v171.toInt) := fun h9 => c9 ((fi_le rfl rfl).mpr h9)
          refine lv_iload_n hx hb dX13_row_40 rfl (lv_at hl 0 rfl) ?_
          refine lv_iconst (v := 1) hx hb dX13_row_41 (by decide) ?_
          refine lv_iadd hx hb dX13_row_42 ?_
          refine tk_add rfl (show (1 : Int32).toInt = 1 by decide) (by omega) (by omega) (fun v1016 h_v1016 => ?_)
          refine lv_iload_n hx hb dX13_row_43 rfl (lv_at hl 2 rfl) ?_
          have hj1039 : ∀ (v1036 : Int32) (v1037 : Int32) (H : Heap) (locs : List Loc) (F : Nat → Int32) (G : Nat → Int64) (R : Nat → Nat → Int32) (S : Nat → Nat → Int64), (0 ≤ (-1) * v1036.toInt + v4.toInt + (-1)) → (0 ≤ (-1) * v1036.toInt + v172.toInt + 1) → (0 ≤ v1036.toInt + (-1) * v172.toInt) → (0 ≤ (-1) * v1037.toInt + v173.toInt + 1) → (0 ≤ v1037.toInt + (-1) * v173.toInt) → (mz_S D cy ad am F G R S H) → (va_S (mz_W ad am) s.heap H locs) → (mz_IF true F) → (mz_IG G) → (mz_IR [] true R) → (∀ k : Nat, k ∉ ([0, 1, 11, 13] : List Nat) → F k = Fa k) → (∀ k : Nat, k ∉ ([] : List Nat) → G k = Ga k) → (∀ k : Nat, k ∉ ([2, 3] : List Nat) → R k = Ra k) → (F 0 = 0) → (F 13 = 0) → (F 11 = v1037) → ∀ ls : Array Slot, lv_has ls 4 [(3, .int v171), (2, .int v1036), (1, .int v4), (0, .ref am)] → W p l e ({ frames := 5, cells := 0, slots := 0, locals := 280 }) s m args below meth c H locs 0 0 (MQ below (mz_i D cy ad am (fun r F G R S => mz_IF true F ∧ mz_IG G ∧ mz_IR [] true R ∧ (∀ k : Nat, k ∉ ([0, 1, 11, 13] : List Nat) → F k = Fa k) ∧ (∀ k : Nat, k ∉ ([2, 3] : List Nat) → R k = Ra k) ∧ (∀ k : Nat, k ∉ ([] : List Nat) → G k = Ga k) ∧ (-6) ≤ r.toInt ∧ r.toInt ≤ 399)) args s 0 0 (mz_W ad am)) (F0 m 84 ls []) := by
            intro v1036 v1037 H locs F G R S hq0_j1039 hq1_j1039 hq2_j1039 hq3_j1039 hq4_j1039 hM hS hIF hIG hIR hFF hGG hRR hf2 hf6 hf1020 ls hl
            have hq_v1037 := tk_rng v1037
            obtain ⟨v1040, h_v1040, e_v1040⟩ := tk_inc v171 2 (by decide) (by omega) (by omega)
            refine lv_iinc (v := v1040) (lv' := [(3, .int v1040), (2, .int v1036), (1, .int v4), (0, .ref am)]) hx hb dX13_row_84 hl (k := 0) rfl e_v1040 (by decide) rfl (fun ls hl => ?_)
            refine lv_goto (tgt := 35) hx hb dX13_row_87 (by decide) ?_
            exact ih_l971 v1040 v1036 v1037 _ _ _ _ _ _ (by omega) (by omega) (by omega) (by omega) (by omega) (by omega) (by omega) hM hS hIF hIG hIR hFF hGG hRR hf2 hf6 hf1020 (by omega) _ (lv_sub hl [0, 1, 2, 3] rfl)
          refine lv_icmp_ge (tgt := 74) hx hb dX13_row_44 (by decide) (fun c9 => ?_) (fun c9 => ?_)
          · have hc1017 : v4.toInt ≤ v1016.toInt := (fi_le rfl rfl).mp c9
            refine lv_aload_n hx hb dX13_row_74 rfl (lv_at hl 3 rfl) ?_
            refine lv_dup hx hb dX13_row_75 rfl ?_
            refine mz_getI hx hb htl hown hK hM 11 (Nat.le_of_ble_eq_true rfl) rfl (htl _ mw_453) (fun _ h9 => h9) dX13_row_76 (fun v9 e9 => ?_)
            refine fx_ti (v := v173) (e9.symm.trans hf12) ?_
            refine lv_iconst (v := 1) hx hb dX13_row_79 (by decide) ?_
            refine lv_iadd hx hb dX13_row_80 ?_
            refine tk_add rfl (show (1 : Int32).toInt = 1 by decide) (by omega) (by omega) (fun v1041 h_v1041 => ?_)
            refine mz_putI (ty := .int) (x := v1041) hx hb htl hown hK hD hM hS 11 (Nat.le_of_ble_eq_true rfl) rfl (htl _ mw_453) (fun _ h9 => h9) rfl (tyX13_ok 11 (by decide)) rfl rfl dX13_row_81 (fun H locs F hM hS hf9 hj9 => ?_)
            have hIF := hIF.put hf9 hj9 (tk_rng _).1 (tk_rng _).2 (by decide)
            have hFF := mz_frp (K := [0, 1, 11, 13]) (Fa := Fa) hj9 hFF (by decide)
            have hf2 := (hj9 0 (by decide)).trans hf2
            have hf6 := (hj9 13 (by decide)).trans hf6
            have hf1043 := hf9
            exact hj1039 v172 v1041 _ _ _ _ _ _ (by omega) (by omega) (by omega) (by omega) (by omega) hM hS hIF hIG hIR hFF hGG hRR hf2 hf6 hf1043 _ (lv_sub hl [0, 1, 2, 3] rfl)
          · have hc1017 : ¬ (v4.toInt ≤ v1016.toInt) := fun h9 => c9 ((fi_le rfl rfl).mpr h9)
            refine lv_aload_n hx hb dX13_row_47 rfl (lv_at hl 3 rfl) ?_
            refine lv_aload_n hx hb dX13_row_48 rfl (lv_at hl 3 rfl) ?_
            refine mz_getR hx hb htl hown hK hM 12 (Nat.le_of_ble_eq_true rfl) (Nat.le_of_ble_eq_true rfl) (htl _ mw_195) (fun _ h9 => h9) dX13_row_49 ?_
            refine lv_iload_n hx hb dX13_row_52 rfl (lv_at hl 0 rfl) ?_
            refine mz_iald hx hb hK hM 12 (Nat.le_of_ble_eq_true rfl) rfl (nn := 400) rfl rfl (by omega) (by omega) dX13_row_53 (fun v1044 e_v1044 => ?_)
            have hq_v1044 := tk_rng v1044
            refine lv_aload_n hx hb dX13_row_54 rfl (lv_at hl 3 rfl) ?_
            refine mz_getR hx hb htl hown hK hM 12 (Nat.le_of_ble_eq_true rfl) (Nat.le_of_ble_eq_true rfl) (htl _ mw_195) (fun _ h9 => h9) dX13_row_55 ?_
            refine lv_iload_n hx hb dX13_row_58 rfl (lv_at hl 0 rfl) ?_
            refine lv_iconst (v := 1) hx hb dX13_row_59 (by decide) ?_
            refine lv_iadd hx hb dX13_row_60 ?_
            refine tk_add rfl (show (1 : Int32).toInt = 1 by decide) (by omega) (by omega) (fun v1045 h_v1045 => ?_)
            refine mz_iald hx hb hK hM 12 (Nat.le_of_ble_eq_true rfl) rfl (nn := 400) rfl rfl (by omega) (by omega) dX13_row_61 (fun v1046 e_v1046 => ?_)
            have hq_v1046 := tk_rng v1046
            refine mz_Vi (As := [.int v1044, .int v1046]) (rest := []) ⟨hx, hb, hml, hown, hts⟩ hK hM hS (k_X13_verse1 l D cy ld ad am hD _ _ _ _ v1044 v1046 hIF hIG hIR) ⟨callB_of 2 hts (wl_in mw_341) rfl rfl rfl (htl _ mw_5) (htl _ mw_338) hd_yX13_verse1 ⟨(Nat.le_of_ble_eq_true rfl), (Nat.le_of_ble_eq_true rfl)⟩, htl _ mw_339, htl _ mw_340⟩ rfl hl.1 rfl (Nat.le_of_ble_eq_true rfl) dX13_row_62 ⟨(Nat.le_of_ble_eq_true rfl), (Nat.le_of_ble_eq_true rfl)⟩ (fun v1047 H locs F G R S hpo hM hS => ?_)
            obtain ⟨hIF, hIG, hIR, hfr9, hrr9, hgr9, hpo1048, hpo1049⟩ := hpo
            have hq_v1047 := tk_rng v1047
            have hFF := mz_fr (K := [0, 1, 11, 13]) (Fa := Fa) hfr9 hFF (by decide)
            have hRR := mz_fr (K := [2, 3]) (Fa := Ra) hrr9 hRR (by decide)
            have hGG := mz_fr (K := []) (Fa := Ga) hgr9 hGG (by decide)
            have e_v1044 : R 12 (v171 : Int32).toNatClampNeg = _ := (congrFun (hrr9 12 (by decide)) _).trans e_v1044
            have e_v1046 : R 12 (v1045 : Int32).toNatClampNeg = _ := (congrFun (hrr9 12 (by decide)) _).trans e_v1046
            have hf2 := (hfr9 0 (by decide)).trans hf2
            have hf6 := (hfr9 13 (by decide)).trans hf6
            have hf12 := (hfr9 11 (by decide)).trans hf12
            refine lv_if_lt (tgt := 74) hx hb dX13_row_65 (by decide) (fun c9 => ?_) (fun c9 => ?_)
            · have hc1051 : v1047.toInt < 0 := (fi_lt rfl (show (0 : Int32).toInt = 0 by decide)).mp c9
              refine lv_aload_n hx hb dX13_row_74 rfl (lv_at hl 3 rfl) ?_
              refine lv_dup hx hb dX13_row_75 rfl ?_
              refine mz_getI hx hb htl hown hK hM 11 (Nat.le_of_ble_eq_true rfl) rfl (htl _ mw_453) (fun _ h9 => h9) dX13_row_76 (fun v9 e9 => ?_)
              refine fx_ti (v := v173) (e9.symm.trans hf12) ?_
              refine lv_iconst (v := 1) hx hb dX13_row_79 (by decide) ?_
              refine lv_iadd hx hb dX13_row_80 ?_
              refine tk_add rfl (show (1 : Int32).toInt = 1 by decide) (by omega) (by omega) (fun v1052 h_v1052 => ?_)
              refine mz_putI (ty := .int) (x := v1052) hx hb htl hown hK hD hM hS 11 (Nat.le_of_ble_eq_true rfl) rfl (htl _ mw_453) (fun _ h9 => h9) rfl (tyX13_ok 11 (by decide)) rfl rfl dX13_row_81 (fun H locs F hM hS hf9 hj9 => ?_)
              have hIF := hIF.put hf9 hj9 (tk_rng _).1 (tk_rng _).2 (by decide)
              have hFF := mz_frp (K := [0, 1, 11, 13]) (Fa := Fa) hj9 hFF (by decide)
              have hf2 := (hj9 0 (by decide)).trans hf2
              have hf6 := (hj9 13 (by decide)).trans hf6
              have hf1054 := hf9
              exact hj1039 v172 v1052 _ _ _ _ _ _ (by omega) (by omega) (by omega) (by omega) (by omega) hM hS hIF hIG hIR hFF hGG hRR hf2 hf6 hf1054 _ (lv_sub hl [0, 1, 2, 3] rfl)
            · have hc1051 : ¬ (v1047.toInt < 0) := fun h9 => c9 ((fi_lt rfl (show (0 : Int32).toInt = 0 by decide)).mpr h9)
              obtain ⟨v1055, h_v1055, e_v1055⟩ := tk_inc v172 1 (by decide) (by omega) (by omega)
              refine lv_iinc (v := v1055) (lv' := [(2, .int v1055), (3, .int v171), (1, .int v4), (0, .ref am)]) hx hb dX13_row_68 hl (k := 1) rfl e_v1055 (by decide) rfl (fun ls hl => ?_)
              refine lv_goto (tgt := 84) hx hb dX13_row_71 (by decide) ?_
              exact hj1039 v1055 v173 _ _ _ _ _ _ (by omega) (by omega) (by omega) (by omega) (by omega) hM hS hIF hIG hIR hFF hGG hRR hf2 hf6 hf12 _ (lv_sub hl [1, 0, 2, 3] rfl)
    have hk_0 : (0 : Int32).toInt = 0 := by decide
    have hk_0 : (0 : Int32).toInt = 0 := by decide
    have hk_0 : (0 : Int32).toInt = 0 := by decide
    exact hl971 402 0 0 0 _ _ _ _ _ _ (by omega) (by omega) (by omega) (by omega) (by omega) (by omega) (by omega) hM hS hIF hIG hIR hFF (fun _ _ => rfl) (fun _ _ => rfl) hf2 hf6 hf12 (by omega) _ (lv_sub hl [0, 1, 2, 3] rfl)
  · have hc10 : v4.toInt = 0 := (fi_eq rfl (show (0 : Int32).toInt = 0 by decide)).mp c9
    refine lv_aload_n hx hb dX13_row_19 rfl (lv_at hl 1 rfl) ?_
    refine lv_bipush (v := (-6)) hx hb dX13_row_20 (by decide) ?_
    have hk_m6 : ((-6) : Int32).toInt = (-6) := by decide
    refine mz_Vi (As := [.int (-6)]) (rest := []) ⟨hx, hb, hml, hown, hts⟩ hK hM hS (k_X13_tell l D cy ld ad am hD _ _ _ _ (-6) hIF hIG hIR (by omega) (by omega)) ⟨callB_of 1 hts (wl_in mw_296) rfl rfl rfl (htl _ mw_5) (htl _ mw_293) hd_yX13_tell ⟨(Nat.le_of_ble_eq_true rfl), (Nat.le_of_ble_eq_true rfl)⟩, htl _ mw_294, htl _ mw_295⟩ rfl hl.1 rfl (Nat.le_of_ble_eq_true rfl) dX13_row_22 ⟨(Nat.le_of_ble_eq_true rfl), (Nat.le_of_ble_eq_true rfl)⟩ (fun v1056 H locs F G R S hpo hM hS => ?_)
    obtain ⟨hIF, hIG, hIR, hfr9, hrr9, hgr9, hpo1057⟩ := hpo
    have hq_v1056 := tk_rng v1056
    have hFF := mz_fr (K := [0, 1, 11, 13]) (Fa := Fa) hfr9 hFF (by decide)
    have hRR := mz_fr (K := [2, 3]) (Fa := Ra) hrr9 (fun _ _ => rfl) (by decide)
    have hGG := mz_fr (K := []) (Fa := Ga) hgr9 (fun _ _ => rfl) (by decide)
    have hf2 := (hfr9 0 (by decide)).trans hf2
    have hf6 := (hfr9 13 (by decide)).trans hf6
    exact mz_iret (v := v1056) hx hb hr rfl hlocks ⟨hIF, hIG, hIR, hFF, hRR, hGG, (by omega), (by omega)⟩ hM hS dX13_row_25
