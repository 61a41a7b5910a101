theorem dX13_back_0 : decode cX13_back 0 = .ok (.aload_n 0, 1) := by decide +kernel
theorem dX13_back_1 : decode cX13_back 1 = .ok (.iconst 0, 1) := by decide +kernel
theorem dX13_back_2 : decode cX13_back 2 = .ok (.putfield 170, 3) := by decide +kernel
theorem dX13_back_5 : decode cX13_back 5 = .ok (.iload_n 1, 1) := by decide +kernel
theorem dX13_back_6 : decode cX13_back 6 = .ok (.i2l, 1) := by decide +kernel
theorem dX13_back_7 : decode cX13_back 7 = .ok (.lconst 0, 1) := by decide +kernel
theorem dX13_back_8 : decode cX13_back 8 = .ok (.lconst 1, 1) := by decide +kernel
theorem dX13_back_9 : decode cX13_back 9 = .ok (.invokestatic 190, 3) := by decide +kernel
theorem dX13_back_12 : decode cX13_back 12 = .ok (.ifCond .ne 9, 3) := by decide +kernel
theorem dX13_back_21 : decode cX13_back 21 = .ok (.aload_n 0, 1) := by decide +kernel
theorem dX13_back_22 : decode cX13_back 22 = .ok (.getfield 19, 3) := by decide +kernel
theorem dX13_back_25 : decode cX13_back 25 = .ok (.iload_n 1, 1) := by decide +kernel
theorem dX13_back_26 : decode cX13_back 26 = .ok (.baload, 1) := by decide +kernel
theorem dX13_back_27 : decode cX13_back 27 = .ok (.ifCond .ne 10, 3) := by decide +kernel
theorem dX13_back_37 : decode cX13_back 37 = .ok (.iconst 0, 1) := by decide +kernel
theorem dX13_back_38 : decode cX13_back 38 = .ok (.istore_n 2, 1) := by decide +kernel
theorem dX13_back_39 : decode cX13_back 39 = .ok (.iload_n 2, 1) := by decide +kernel
theorem dX13_back_40 : decode cX13_back 40 = .ok (.sipush 5560, 3) := by decide +kernel
theorem dX13_back_43 : decode cX13_back 43 = .ok (.if_icmp .ge 27, 3) := by decide +kernel
theorem dX13_back_70 : decode cX13_back 70 = .ok (.aload_n 0, 1) := by decide +kernel
theorem dX13_back_71 : decode cX13_back 71 = .ok (.iconst 0, 1) := by decide +kernel
theorem dX13_back_72 : decode cX13_back 72 = .ok (.putfield 176, 3) := by decide +kernel
theorem dX13_back_75 : decode cX13_back 75 = .ok (.aload_n 0, 1) := by decide +kernel
theorem dX13_back_76 : decode cX13_back 76 = .ok (.iconst 0, 1) := by decide +kernel
theorem dX13_back_77 : decode cX13_back 77 = .ok (.invokevirtual 183, 3) := by decide +kernel
theorem dX13_back_80 : decode cX13_back 80 = .ok (.ireturn, 1) := by decide +kernel
theorem dX13_back_46 : decode cX13_back 46 = .ok (.aload_n 0, 1) := by decide +kernel
theorem dX13_back_47 : decode cX13_back 47 = .ok (.getfield 13, 3) := by decide +kernel
theorem dX13_back_50 : decode cX13_back 50 = .ok (.iload_n 2, 1) := by decide +kernel
theorem dX13_back_51 : decode cX13_back 51 = .ok (.aload_n 0, 1) := by decide +kernel
theorem dX13_back_52 : decode cX13_back 52 = .ok (.getfield 16, 3) := by decide +kernel
theorem dX13_back_55 : decode cX13_back 55 = .ok (.sipush 5560, 3) := by decide +kernel
theorem dX13_back_58 : decode cX13_back 58 = .ok (.iload_n 1, 1) := by decide +kernel
theorem dX13_back_59 : decode cX13_back 59 = .ok (.imul, 1) := by decide +kernel
theorem dX13_back_60 : decode cX13_back 60 = .ok (.iload_n 2, 1) := by decide +kernel
theorem dX13_back_61 : decode cX13_back 61 = .ok (.iadd, 1) := by decide +kernel
theorem dX13_back_62 : decode cX13_back 62 = .ok (.iaload, 1) := by decide +kernel
theorem dX13_back_63 : decode cX13_back 63 = .ok (.iastore, 1) := by decide +kernel
theorem dX13_back_64 : decode cX13_back 64 = .ok (.iinc 2 1, 3) := by decide +kernel
theorem dX13_back_67 : decode cX13_back 67 = .ok (.goto (-28), 3) := by decide +kernel
theorem dX13_back_30 : decode cX13_back 30 = .ok (.aload_n 0, 1) := by decide +kernel
theorem dX13_back_31 : decode cX13_back 31 = .ok (.bipush (-2), 2) := by decide +kernel
theorem dX13_back_33 : decode cX13_back 33 = .ok (.invokevirtual 183, 3) := by decide +kernel
theorem dX13_back_36 : decode cX13_back 36 = .ok (.ireturn, 1) := by decide +kernel
theorem dX13_back_15 : decode cX13_back 15 = .ok (.aload_n 0, 1) := by decide +kernel
theorem dX13_back_16 : decode cX13_back 16 = .ok (.iconst (-1), 1) := by decide +kernel
theorem dX13_back_17 : decode cX13_back 17 = .ok (.invokevirtual 183, 3) := by decide +kernel
theorem dX13_back_20 : decode cX13_back 20 = .ok (.ireturn, 1) := by decide +kernel
set_option maxHeartbeats 4000000 in
set_option maxRecDepth 100000 in
theorem k_X13_back (l : Launch) (D : va_G) (cy : Nat → ClassId) (ld ad : Nat → Nat) (am : Nat) (hD : mz_D ad am) (Fa : Nat → Int32) (Ga : Nat → Int64) (Ra : Nat → Nat → Int32) (Sa : Nat → Nat → Int64) (p1 : Int32) (hIF : mz_IF true Fa) (hIG : mz_IG Ga) (hIR : mz_IR [] true Ra) : Met l yX13_back (wl yX13_back cX13_back 3 (some .int)) ({ frames := 4, cells := 0, slots := 0, locals := 210 }) (mz_p D cy ld ad am Fa Ga Ra Sa [.ref am, .int p1]) (mz_i D cy ad am (fun r F G R S => mz_IF true F ∧ mz_IG G ∧ mz_IR [] true R ∧ (∀ k : Nat, k ∉ ([0, 1, 8] : List Nat) → F k = Fa k) ∧ (∀ k : Nat, k ∉ ([2, 3] : List Nat) → R k = Ra k) ∧ (∀ k : Nat, k ∉ ([] : List Nat) → G k = Ga k) ∧ (-2) ≤ r.toInt ∧ r.toInt ≤ 0)) 0 0 (mz_W ad am) := by
  refine mz_met (y := yX13_back) (cc := cX13_back) (maxL := 3) (ret := (some .int)) (av := [.ref am, .int p1]) _ (by decide) (Nat.le_of_ble_eq_true rfl) ?_
  intro p e s m args below meth c hx hb hr hml hts htl hown hlocks hK H locs hM hS ls hl
  have hown : s.vm.findClass RX13 = some m.cls := hown
  have hl : lv_has ls 3 [(0, .ref am), (1, .int p1)] := hl
  have hr_p1 := tk_rng p1
  refine lv_aload_n hx hb dX13_back_0 rfl (lv_at hl 0 rfl) ?_
  refine lv_iconst (v := 0) hx hb dX13_back_1 (by decide) ?_
  have hk_0 : (0 : Int32).toInt = 0 := by decide
  refine mz_putI (ty := .int) (x := 0) hx hb htl hown hK hD hM hS 0 (Nat.le_of_ble_eq_true rfl) rfl (htl _ mw_286) (fun _ h9 => h9) rfl (tyX13_ok 0 (by decide)) rfl rfl dX13_back_2 (fun H locs F hM hS hf9 hj9 => ?_)
  have hIF := hIF.put hf9 hj9 (tk_rng _).1 (tk_rng _).2 (by decide)
  have hFF := mz_frp (K := [0, 1, 8]) (Fa := Fa) hj9 (fun _ _ => rfl) (by decide)
  have hf2 := hf9
  refine lv_iload_n hx hb dX13_back_5 rfl (lv_at hl 1 rfl) ?_
  obtain ⟨w3, e_w3, h_w3⟩ : ∃ z : Int64, p1.toInt64 = z ∧ z.toInt = p1.toInt := ⟨_, rfl, fl_w _⟩
  refine lv_i2l (v := w3) hx hb dX13_back_6 e_w3 ?_
  refine lv_lconst (v := 0) hx hb dX13_back_7 (by decide) ?_
  refine lv_lconst (v := 1) hx hb dX13_back_8 (by decide) ?_
  have hk_0 : (0 : Int64).toInt = 0 := by decide
  have hk_1 : (1 : Int64).toInt = 1 := by decide
  refine mz_Sj (As := [.long w3, .long 0, .long 1]) (rest := []) ⟨hx, hb, hml, hown, hts⟩ hK hM hS (k_X13_in l D cy ld ad am hD _ _ _ _ w3 0 1) ⟨callB_of 3 hts (wl_in mw_292) rfl rfl rfl (htl _ mw_5) (htl _ mw_290) hd_yX13_in ⟨(Nat.le_of_ble_eq_true rfl), (Nat.le_of_ble_eq_true rfl)⟩, htl _ mw_291⟩ rfl hl.1 rfl (Nat.le_of_ble_eq_true rfl) dX13_back_9 ⟨(Nat.le_of_ble_eq_true rfl), (Nat.le_of_ble_eq_true rfl)⟩ (fun v4 H locs hpo hM hS => ?_)
  obtain ⟨hpo5, hpo6, hpo10, hpo11, hpo12, hpo13⟩ := hpo
  have hq_v4 := tk_rng v4
  refine lv_if_ne (tgt := 21) hx hb dX13_back_12 (by decide) (fun c9 => ?_) (fun c9 => ?_)
  · have hc15 : ¬ (v4.toInt = 0) := fun h9 => c9 ((fi_eq rfl (show (0 : Int32).toInt = 0 by decide)).mpr h9)
    have hwk_16 : 0 ≤ w3.toInt ∧ w3.toInt ≤ 1 := by omega
    refine lv_aload_n hx hb dX13_back_21 rfl (lv_at hl 0 rfl) ?_
    refine mz_getR hx hb htl hown hK hM 5 (Nat.le_of_ble_eq_true rfl) (Nat.le_of_ble_eq_true rfl) (htl _ mw_190) (fun _ h9 => h9) dX13_back_22 ?_
    refine lv_iload_n hx hb dX13_back_25 rfl (lv_at hl 1 rfl) ?_
    refine mz_zald hx hb hK hM 5 (Nat.le_of_ble_eq_true rfl) rfl (nn := 2) rfl rfl (by omega) (by omega) dX13_back_26 (fun v17 e_v17 => ?_)
    have hq_v17 := tk_rng v17
    refine lv_if_ne (tgt := 37) hx hb dX13_back_27 (by decide) (fun c9 => ?_) (fun c9 => ?_)
    · have hc18 : ¬ (v17.toInt = 0) := fun h9 => c9 ((fi_eq rfl (show (0 : Int32).toInt = 0 by decide)).mpr h9)
      refine lv_iconst (v := 0) hx hb dX13_back_37 (by decide) ?_
      refine lv_istore_n (lv' := [(2, .int 0), (0, .ref am), (1, .int p1)]) hx hb dX13_back_38 rfl hl (by decide) rfl (fun ls hl => ?_)
      have hI9 := hIR
      have hIR := hIR.hole (X := [3])
      obtain ⟨cf, ecf⟩ : ∃ z : Nat → Int32, Ra 4 = z := ⟨_, rfl⟩
      obtain ⟨cg, ecg⟩ : ∃ z : Nat → Int32, Ra 3 = z := ⟨_, rfl⟩
      have hl139 : ∀ (N_l139 : Nat) (v37 : Int32) (H : Heap) (locs : List Loc) (R : Nat → Nat → Int32), (0 ≤ v37.toInt) → (v37.toInt ≤ 5560) → (mz_S D cy ad am F Ga R Sa H) → (va_S (mz_W ad am) s.heap H locs) → (mz_IR [3] true R) → (∀ k : Nat, k ∉ ([2, 3] : List Nat) → R k = Ra k) → (R 3 = va_cpy cf cg (5560 * p1.toInt.toNat) 0 v37.toInt.toNat) → (R 4 = cf) → ((-1) * v37.toInt + 5560 < (N_l139 : Int)) → ∀ ls : Array Slot, lv_has ls 3 [(2, .int v37), (0, .ref am), (1, .int p1)] → W p l e ({ frames := 4, cells := 0, slots := 0, locals := 210 }) s m args below meth c H locs 0 0 (MQ below (mz_i D cy ad am (fun r F G R S => mz_IF true F ∧ mz_IG G ∧ mz_IR [] true R ∧ (∀ k : Nat, k ∉ ([0, 1, 8] : List Nat) → F k = Fa k) ∧ (∀ k : Nat, k ∉ ([2, 3] : List Nat) → R k = Ra k) ∧ (∀ k : Nat, k ∉ ([] : List Nat) → G k = Ga k) ∧ (-2) ≤ r.toInt ∧ r.toInt ≤ 0)) args s 0 0 (mz_W ad am)) (F0 m 39 ls []) := by
        intro N_l139
        induction N_l139 with
        | zero => intro v37 H locs R hq0_l139 hq1_l139 hM hS hIR hRR hcp hcs hm_l139 ls hl; exfalso; omega
        | succ N_l139 ih_l139 =>
          intro v37 H locs R hq0_l139 hq1_l139 hM hS hIR hRR hcp hcs hm_l139 ls hl
          refine lv_iload_n hx hb dX13_back_39 rfl (lv_at hl 0 rfl) ?_
          refine lv_sipush (v := 5560) hx hb dX13_back_40 (by decide) ?_
          refine lv_icmp_ge (tgt := 70) hx hb dX13_back_43 (by decide) (fun c9 => ?_) (fun c9 => ?_)
          · have hc140 : 5560 ≤ v37.toInt := (fi_le (show (5560 : Int32).toInt = 5560 by decide) rfl).mp c9
            have e9 : v37.toInt.toNat = 5560 := by omega
            rw [e9] at hcp
            have hIR := hIR.close (by rw [hcp]; exact mz_unimg ((show ∀ s : Nat, s < 2 → rO cf (5560 * s) by rw [← ecf]; exact hI9.at 4) p1.toInt.toNat (by omega)))
            refine lv_aload_n hx hb dX13_back_70 rfl (lv_at hl 1 rfl) ?_
            refine lv_iconst (v := 0) hx hb dX13_back_71 (by decide) ?_
            have hk_0 : (0 : Int32).toInt = 0 := by decide
            have hk_0 : (0 : Int32).toInt = 0 := by decide
            refine mz_putI (ty := .int) (x := 0) hx hb htl hown hK hD hM hS 8 (Nat.le_of_ble_eq_true rfl) rfl (htl _ mw_289) (fun _ h9 => h9) rfl (tyX13_ok 8 (by decide)) rfl rfl dX13_back_72 (fun H locs F hM hS hf9 hj9 => ?_)
            have hIF := hIF.put hf9 hj9 (show 0 ≤ (0 : Int32).toInt by omega) (show (0 : Int32).toInt ≤ 16 by omega) (by decide)
            have hFF := mz_frp (K := [0, 1, 8]) (Fa := Fa) hj9 hFF (by decide)
            have hf2 := (hj9 0 (by decide)).trans hf2
            have hf147 := hf9
            refine lv_aload_n hx hb dX13_back_75 rfl (lv_at hl 1 rfl) ?_
            refine lv_iconst (v := 0) hx hb dX13_back_76 (by decide) ?_
            have hk_0 : (0 : Int32).toInt = 0 := by decide
            refine mz_Vi (As := [.int 0]) (rest := []) ⟨hx, hb, hml, hown, hts⟩ hK hM hS (k_X13_tell l D cy ld ad am hD _ _ _ _ 0 hIF hIG hIR (by omega) (by omega)) ⟨callB_of 1 hts (wl_in mw_296) rfl rfl rfl (htl _ mw_5) (htl _ mw_293) hd_yX13_tell ⟨(Nat.le_of_ble_eq_true rfl), (Nat.le_of_ble_eq_true rfl)⟩, htl _ mw_294, htl _ mw_295⟩ rfl hl.1 rfl (Nat.le_of_ble_eq_true rfl) dX13_back_77 ⟨(Nat.le_of_ble_eq_true rfl), (Nat.le_of_ble_eq_true rfl)⟩ (fun v148 H locs F G R S hpo hM hS => ?_)
            obtain ⟨hIF, hIG, hIR, hfr9, hrr9, hgr9, hpo149⟩ := hpo
            have hq_v148 := tk_rng v148
            have hFF := mz_fr (K := [0, 1, 8]) (Fa := Fa) hfr9 hFF (by decide)
            have hRR := mz_fr (K := [2, 3]) (Fa := Ra) hrr9 hRR (by decide)
            have hGG := mz_fr (K := []) (Fa := Ga) hgr9 (fun _ _ => rfl) (by decide)
            have hf2 := (hfr9 0 (by decide)).trans hf2
            have hf147 := (hfr9 8 (by decide)).trans hf147
            exact mz_iret (v := v148) hx hb hr rfl hlocks ⟨hIF, hIG, hIR, hFF, hRR, hGG, (by omega), (by omega)⟩ hM hS dX13_back_80
          · have hc140 : ¬ (5560 ≤ v37.toInt) := fun h9 => c9 ((fi_le (show (5560 : Int32).toInt = 5560 by decide) rfl).mpr h9)
            refine lv_aload_n hx hb dX13_back_46 rfl (lv_at hl 1 rfl) ?_
            refine mz_getR hx hb htl hown hK hM 3 (Nat.le_of_ble_eq_true rfl) (Nat.le_of_ble_eq_true rfl) (htl _ mw_188) (fun _ h9 => h9) dX13_back_47 ?_
            refine lv_iload_n hx hb dX13_back_50 rfl (lv_at hl 0 rfl) ?_
            refine lv_aload_n hx hb dX13_back_51 rfl (lv_at hl 1 rfl) ?_
            refine mz_getR hx hb htl hown hK hM 4 (Nat.le_of_ble_eq_true rfl) (Nat.le_of_ble_eq_true rfl) (htl _ mw_189) (fun _ h9 => h9) dX13_back_52 ?_
            refine lv_sipush (v := 5560) hx hb dX13_back_55 (by decide) ?_
            refine lv_iload_n hx hb dX13_back_58 rfl (lv_at hl 2 rfl) ?_
            refine lv_imul hx hb dX13_back_59 ?_
            refine tk_mul (show (5560 : Int32).toInt = 5560 by decide) rfl (by omega) (by omega) (fun v151 h_v151 => ?_)
            refine lv_iload_n hx hb dX13_back_60 rfl (lv_at hl 0 rfl) ?_
            refine lv_iadd hx hb dX13_back_61 ?_
            refine tk_add rfl rfl (by omega) (by omega) (fun v152 h_v152 => ?_)
            refine mz_iald hx hb hK hM 4 (Nat.le_of_ble_eq_true rfl) rfl (nn := 11120) rfl rfl (by omega) (by omega) dX13_back_62 (fun v153 e_v153 => ?_)
            have hq_v153 := tk_rng v153
            refine mz_iast (x := v153) hx hb hK hD hM hS 3 (Nat.le_of_ble_eq_true rfl) rfl (nn := 5560) rfl rfl (by omega) (by omega) dX13_back_63 (fun H locs R hM hS hw9 hj9 => ?_)
            have hIR := hIR.putX hj9 (by decide)
            have hcp := mz_cps (sp := (5560 * p1.toInt.toNat)) (dp := 0) (n := v37.toInt.toNat) hw9 hcp (by omega) (by rw [← e_v153, hcs]; congr 1; have h9 := tk_nat (i := v152) rfl (by omega); omega)
            have hcs := (hj9 4 (by decide)).trans hcs
            have hRR := mz_frp (K := [2, 3]) (Fa := Ra) hj9 hRR (by decide)
            have e_v153 : R 4 (v152 : Int32).toNatClampNeg = _ := (congrFun (hj9 4 (by decide)) _).trans e_v153
            obtain ⟨v155, h_v155, e_v155⟩ := tk_inc v37 1 (by decide) (by omega) (by omega)
            refine lv_iinc (v := v155) (lv' := [(2, .int v155), (0, .ref am), (1, .int p1)]) hx hb dX13_back_64 hl (k := 0) rfl e_v155 (by decide) rfl (fun ls hl => ?_)
            refine lv_goto (tgt := 39) hx hb dX13_back_67 (by decide) ?_
            exact ih_l139 v155 _ _ _ (by omega) (by omega) hM hS hIR hRR (by rw [show v155.toInt.toNat = v37.toInt.toNat + 1 by omega]; exact hcp) hcs (by omega) _ (lv_sub hl [0, 1, 2] rfl)
      have hk_0 : (0 : Int32).toInt = 0 := by decide
      exact hl139 5561 0 _ _ _ (by omega) (by omega) hM hS hIR (fun _ _ => rfl) (by rw [show (0 : Int32).toInt.toNat = 0 by decide, mz_cp0]; exact ecg) ecf (by omega) _ (lv_sub hl [0, 1, 2] rfl)
    · have hc18 : v17.toInt = 0 := (fi_eq rfl (show (0 : Int32).toInt = 0 by decide)).mp c9
      refine lv_aload_n hx hb dX13_back_30 rfl (lv_at hl 0 rfl) ?_
      refine lv_bipush (v := (-2)) hx hb dX13_back_31 (by decide) ?_
      have hk_m2 : ((-2) : Int32).toInt = (-2) := by decide
      refine mz_Vi (As := [.int (-2)]) (rest := []) ⟨hx, hb, hml, hown, hts⟩ hK hM hS (k_X13_tell l D cy ld ad am hD _ _ _ _ (-2) hIF hIG hIR (by omega) (by omega)) ⟨callB_of 1 hts (wl_in mw_296) rfl rfl rfl (htl _ mw_5) (htl _ mw_293) hd_yX13_tell ⟨(Nat.le_of_ble_eq_true rfl), (Nat.le_of_ble_eq_true rfl)⟩, htl _ mw_294, htl _ mw_295⟩ rfl hl.1 rfl (Nat.le_of_ble_eq_true rfl) dX13_back_33 ⟨(Nat.le_of_ble_eq_true rfl), (Nat.le_of_ble_eq_true rfl)⟩ (fun v156 H locs F G R S hpo hM hS => ?_)
      obtain ⟨hIF, hIG, hIR, hfr9, hrr9, hgr9, hpo157⟩ := hpo
      have hq_v156 := tk_rng v156
      have hFF := mz_fr (K := [0, 1, 8]) (Fa := Fa) hfr9 hFF (by decide)
      have hRR := mz_fr (K := [2, 3]) (Fa := Ra) hrr9 (fun _ _ => rfl) (by decide)
      have hGG := mz_fr (K := []) (Fa := Ga) hgr9 (fun _ _ => rfl) (by decide)
      have hf2 := (hfr9 0 (by decide)).trans hf2
      exact mz_iret (v := v156) hx hb hr rfl hlocks ⟨hIF, hIG, hIR, hFF, hRR, hGG, (by omega), (by omega)⟩ hM hS dX13_back_36
  · have hc15 : v4.toInt = 0 := (fi_eq rfl (show (0 : Int32).toInt = 0 by decide)).mp c9
    refine lv_aload_n hx hb dX13_back_15 rfl (lv_at hl 0 rfl) ?_
    refine lv_iconst (v := (-1)) hx hb dX13_back_16 (by decide) ?_
    have hk_m1 : ((-1) : Int32).toInt = (-1) := by decide
    refine mz_Vi (As := [.int (-1)]) (rest := []) ⟨hx, hb, hml, hown, hts⟩ hK hM hS (k_X13_tell l D cy ld ad am hD _ _ _ _ (-1) hIF hIG hIR (by omega) (by omega)) ⟨callB_of 1 hts (wl_in mw_296) rfl rfl rfl (htl _ mw_5) (htl _ mw_293) hd_yX13_tell ⟨(Nat.le_of_ble_eq_true rfl), (Nat.le_of_ble_eq_true rfl)⟩, htl _ mw_294, htl _ mw_295⟩ rfl hl.1 rfl (Nat.le_of_ble_eq_true rfl) dX13_back_17 ⟨(Nat.le_of_ble_eq_true rfl), (Nat.le_of_ble_eq_true rfl)⟩ (fun v159 H locs F G R S hpo hM hS => ?_)
    obtain ⟨hIF, hIG, hIR, hfr9, hrr9, hgr9, hpo160⟩ := hpo
    have hq_v159 := tk_rng v159
    have hFF := mz_fr (K := [0, 1, 8]) (Fa := Fa) hfr9 hFF (by decide)
    have hRR := mz_fr (K := [2, 3]) (Fa := Ra) hrr9 (fun _ _ => rfl) (by decide)
    have hGG := mz_fr (K := []) (Fa := Ga) hgr9 (fun _ _ => rfl) (by decide)
    have hf2 := (hfr9 0 (by decide)).trans hf2
    exact mz_iret (v := v159) hx hb hr rfl hlocks ⟨hIF, hIG, hIR, hFF, hRR, hGG, (by omega), (by omega)⟩ hM hS dX13_back_20
