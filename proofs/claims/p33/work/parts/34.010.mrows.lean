theorem hd_yX13_in : yX13_in.cls ≠ "java/lang/invoke/MethodHandle" ∧ yX13_in.cls ≠ "java/lang/invoke/VarHandle" ∧ (parseMethodDescriptor yX13_in.desc).map (fun d => d.parameters.length) = some 3 := by decide +kernel
theorem dX13_image_0 : decode cX13_image 0 = .ok (.aload_n 0, 1) := by decide +kernel
theorem dX13_image_1 : decode cX13_image 1 = .ok (.iconst 0, 1) := by decide +kernel
theorem dX13_image_2 : decode cX13_image 2 = .ok (.putfield 170, 3) := by decide +kernel
theorem dX13_image_5 : decode cX13_image 5 = .ok (.iload_n 1, 1) := by decide +kernel
theorem dX13_image_6 : decode cX13_image 6 = .ok (.i2l, 1) := by decide +kernel
theorem dX13_image_7 : decode cX13_image 7 = .ok (.lconst 0, 1) := by decide +kernel
theorem dX13_image_8 : decode cX13_image 8 = .ok (.lconst 1, 1) := by decide +kernel
theorem dX13_image_9 : decode cX13_image 9 = .ok (.invokestatic 190, 3) := by decide +kernel
theorem dX13_image_12 : decode cX13_image 12 = .ok (.ifCond .ne 9, 3) := by decide +kernel
theorem dX13_image_21 : decode cX13_image 21 = .ok (.iconst 0, 1) := by decide +kernel
theorem dX13_image_22 : decode cX13_image 22 = .ok (.istore_n 2, 1) := by decide +kernel
theorem dX13_image_23 : decode cX13_image 23 = .ok (.iload_n 2, 1) := by decide +kernel
theorem dX13_image_24 : decode cX13_image 24 = .ok (.sipush 5560, 3) := by decide +kernel
theorem dX13_image_27 : decode cX13_image 27 = .ok (.if_icmp .ge 27, 3) := by decide +kernel
theorem dX13_image_54 : decode cX13_image 54 = .ok (.aload_n 0, 1) := by decide +kernel
theorem dX13_image_55 : decode cX13_image 55 = .ok (.getfield 19, 3) := by decide +kernel
theorem dX13_image_58 : decode cX13_image 58 = .ok (.iload_n 1, 1) := by decide +kernel
theorem dX13_image_59 : decode cX13_image 59 = .ok (.iconst 1, 1) := by decide +kernel
theorem dX13_image_60 : decode cX13_image 60 = .ok (.bastore, 1) := by decide +kernel
theorem dX13_image_61 : decode cX13_image 61 = .ok (.aload_n 0, 1) := by decide +kernel
theorem dX13_image_62 : decode cX13_image 62 = .ok (.iconst 0, 1) := by decide +kernel
theorem dX13_image_63 : decode cX13_image 63 = .ok (.invokevirtual 183, 3) := by decide +kernel
theorem dX13_image_66 : decode cX13_image 66 = .ok (.ireturn, 1) := by decide +kernel
theorem dX13_image_30 : decode cX13_image 30 = .ok (.aload_n 0, 1) := by decide +kernel
theorem dX13_image_31 : decode cX13_image 31 = .ok (.getfield 16, 3) := by decide +kernel
theorem dX13_image_34 : decode cX13_image 34 = .ok (.sipush 5560, 3) := by decide +kernel
theorem dX13_image_37 : decode cX13_image 37 = .ok (.iload_n 1, 1) := by decide +kernel
theorem dX13_image_38 : decode cX13_image 38 = .ok (.imul, 1) := by decide +kernel
theorem dX13_image_39 : decode cX13_image 39 = .ok (.iload_n 2, 1) := by decide +kernel
theorem dX13_image_40 : decode cX13_image 40 = .ok (.iadd, 1) := by decide +kernel
theorem dX13_image_41 : decode cX13_image 41 = .ok (.aload_n 0, 1) := by decide +kernel
theorem dX13_image_42 : decode cX13_image 42 = .ok (.getfield 13, 3) := by decide +kernel
theorem dX13_image_45 : decode cX13_image 45 = .ok (.iload_n 2, 1) := by decide +kernel
theorem dX13_image_46 : decode cX13_image 46 = .ok (.iaload, 1) := by decide +kernel
theorem dX13_image_47 : decode cX13_image 47 = .ok (.iastore, 1) := by decide +kernel
theorem dX13_image_48 : decode cX13_image 48 = .ok (.iinc 2 1, 3) := by decide +kernel
theorem dX13_image_51 : decode cX13_image 51 = .ok (.goto (-28), 3) := by decide +kernel
theorem dX13_image_15 : decode cX13_image 15 = .ok (.aload_n 0, 1) := by decide +kernel
theorem dX13_image_16 : decode cX13_image 16 = .ok (.iconst (-1), 1) := by decide +kernel
theorem dX13_image_17 : decode cX13_image 17 = .ok (.invokevirtual 183, 3) := by decide +kernel
theorem dX13_image_20 : decode cX13_image 20 = .ok (.ireturn, 1) := by decide +kernel
set_option maxHeartbeats 4000000 in
set_option maxRecDepth 100000 in
theorem k_X13_image (l : Launch) (D : va_G) (cy : Nat → ClassId) (ld ad : Nat → Nat) (am : Nat) (hD : mz_D ad am) (Fa : Nat → Int32) (Ga : Nat → Int64) (Ra : Nat → Nat → Int32) (Sa : Nat → Nat → Int64) (p1 : Int32) (hIF : mz_IF true Fa) (hIG : mz_IG Ga) (hIR : mz_IR [] true Ra) : Met l yX13_image (wl yX13_image cX13_image 3 (some .int)) ({ frames := 4, cells := 0, slots := 0, locals := 210 }) (mz_p D cy ld ad am Fa Ga Ra Sa [.ref am, .int p1]) (mz_i D cy ad am (fun r F G R S => mz_IF true F ∧ mz_IG G ∧ mz_IR [] true R ∧ (∀ k : Nat, k ∉ ([0, 1] : List Nat) → F k = Fa k) ∧ (∀ k : Nat, k ∉ ([2, 4, 5] : List Nat) → R k = Ra k) ∧ (∀ k : Nat, k ∉ ([] : List Nat) → G k = Ga k) ∧ (-1) ≤ r.toInt ∧ r.toInt ≤ 0)) 0 0 (mz_W ad am) := by
  refine mz_met (y := yX13_image) (cc := cX13_image) (maxL := 3) (ret := (some .int)) (av := [.ref am, .int p1]) _ (by decide) (Nat.le_of_ble_eq_true rfl) ?_
  intro p e s m args below meth c hx hb hr hml hts htl hown hlocks hK H locs hM hS ls hl
  have hown : s.vm.findClass RX13 = some m.cls := hown
  have hl : lv_has ls 3 [(0, .ref am), (1, .int p1)] := hl
  have hr_p1 := tk_rng p1
  refine lv_aload_n hx hb dX13_image_0 rfl (lv_at hl 0 rfl) ?_
  refine lv_iconst (v := 0) hx hb dX13_image_1 (by decide) ?_
  have hk_0 : (0 : Int32).toInt = 0 := by decide
  refine mz_putI (ty := .int) (x := 0) hx hb htl hown hK hD hM hS 0 (Nat.le_of_ble_eq_true rfl) rfl (htl _ mw_286) (fun _ h9 => h9) rfl (tyX13_ok 0 (by decide)) rfl rfl dX13_image_2 (fun H locs F hM hS hf9 hj9 => ?_)
  have hIF := hIF.put hf9 hj9 (tk_rng _).1 (tk_rng _).2 (by decide)
  have hFF := mz_frp (K := [0, 1]) (Fa := Fa) hj9 (fun _ _ => rfl) (by decide)
  have hf2 := hf9
  refine lv_iload_n hx hb dX13_image_5 rfl (lv_at hl 1 rfl) ?_
  obtain ⟨w3, e_w3, h_w3⟩ : ∃ z : Int64, p1.toInt64 = z ∧ z.toInt = p1.toInt := ⟨_, rfl, fl_w _⟩
  refine lv_i2l (v := w3) hx hb dX13_image_6 e_w3 ?_
  refine lv_lconst (v := 0) hx hb dX13_image_7 (by decide) ?_
  refine lv_lconst (v := 1) hx hb dX13_image_8 (by decide) ?_
  have hk_0 : (0 : Int64).toInt = 0 := by decide
  have hk_1 : (1 : Int64).toInt = 1 := by decide
  refine mz_Sj (As := [.long w3, .long 0, .long 1]) (rest := []) ⟨hx, hb, hml, hown, hts⟩ hK hM hS (k_X13_in l D cy ld ad am hD _ _ _ _ w3 0 1) ⟨callB_of 3 hts (wl_in mw_292) rfl rfl rfl (htl _ mw_5) (htl _ mw_290) hd_yX13_in ⟨(Nat.le_of_ble_eq_true rfl), (Nat.le_of_ble_eq_true rfl)⟩, htl _ mw_291⟩ rfl hl.1 rfl (Nat.le_of_ble_eq_true rfl) dX13_image_9 ⟨(Nat.le_of_ble_eq_true rfl), (Nat.le_of_ble_eq_true rfl)⟩ (fun v4 H locs hpo hM hS => ?_)
  obtain ⟨hpo5, hpo6, hpo10, hpo11, hpo12, hpo13⟩ := hpo
  have hq_v4 := tk_rng v4
  refine lv_if_ne (tgt := 21) hx hb dX13_image_12 (by decide) (fun c9 => ?_) (fun c9 => ?_)
  · have hc15 : ¬ (v4.toInt = 0) := fun h9 => c9 ((fi_eq rfl (show (0 : Int32).toInt = 0 by decide)).mpr h9)
    have hwk_16 : 0 ≤ w3.toInt ∧ w3.toInt ≤ 1 := by omega
    refine lv_iconst (v := 0) hx hb dX13_image_21 (by decide) ?_
    refine lv_istore_n (lv' := [(2, .int 0), (0, .ref am), (1, .int p1)]) hx hb dX13_image_22 rfl hl (by decide) rfl (fun ls hl => ?_)
    have hI9 := hIR
    have hIR := hIR.hole (X := [4])
    obtain ⟨cf, ecf⟩ : ∃ z : Nat → Int32, Ra 3 = z := ⟨_, rfl⟩
    obtain ⟨cg, ecg⟩ : ∃ z : Nat → Int32, Ra 4 = z := ⟨_, rfl⟩
    have hl131 : ∀ (N_l131 : Nat) (v34 : Int32) (H : Heap) (locs : List Loc) (R : Nat → Nat → Int32), (0 ≤ v34.toInt) → (v34.toInt ≤ 5560) → (mz_S D cy ad am F Ga R Sa H) → (va_S (mz_W ad am) s.heap H locs) → (mz_IR [4] true R) → (∀ k : Nat, k ∉ ([2, 4, 5] : List Nat) → R k = Ra k) → (R 4 = va_cpy cf cg 0 (5560 * p1.toInt.toNat) v34.toInt.toNat) → (R 3 = cf) → ((-1) * v34.toInt + 5560 < (N_l131 : Int)) → ∀ ls : Array Slot, lv_has ls 3 [(2, .int v34), (0, .ref am), (1, .int p1)] → W p l e ({ frames := 4, cells := 0, slots := 0, locals := 210 }) s m args below meth c H locs 0 0 (MQ below (mz_i D cy ad am (fun r F G R S => mz_IF true F ∧ mz_IG G ∧ mz_IR [] true R ∧ (∀ k : Nat, k ∉ ([0, 1] : List Nat) → F k = Fa k) ∧ (∀ k : Nat, k ∉ ([2, 4, 5] : List Nat) → R k = Ra k) ∧ (∀ k : Nat, k ∉ ([] : List Nat) → G k = Ga k) ∧ (-1) ≤ r.toInt ∧ r.toInt ≤ 0)) args s 0 0 (mz_W ad am)) (F0 m 23 ls []) := by
      intro N_l131
      induction N_l131 with
      | zero => intro v34 H locs R hq0_l131 hq1_l131 hM hS hIR hRR hcp hcs hm_l131 ls hl; exfalso; omega
      | succ N_l131 ih_l131 =>
        intro v34 H locs R hq0_l131 hq1_l131 hM hS hIR hRR hcp hcs hm_l131 ls hl
        refine lv_iload_n hx hb dX13_image_23 rfl (lv_at hl 0 rfl) ?_
        refine lv_sipush (v := 5560) hx hb dX13_image_24 (by decide) ?_
        refine lv_icmp_ge (tgt := 54) hx hb dX13_image_27 (by decide) (fun c9 => ?_) (fun c9 => ?_)
        · have hc132 : 5560 ≤ v34.toInt := (fi_le (show (5560 : Int32).toInt = 5560 by decide) rfl).mp c9
          have e9 : v34.toInt.toNat = 5560 := by omega
          rw [e9] at hcp
          have hIR := hIR.close (by rw [hcp]; exact mz_img (by rw [← ecf]; exact hI9.at 3) (by rw [← ecg]; exact hI9.at 4))
          refine lv_aload_n hx hb dX13_image_54 rfl (lv_at hl 1 rfl) ?_
          refine mz_getR hx hb htl hown hK hM 5 (Nat.le_of_ble_eq_true rfl) (Nat.le_of_ble_eq_true rfl) (htl _ mw_190) (fun _ h9 => h9) dX13_image_55 ?_
          refine lv_iload_n hx hb dX13_image_58 rfl (lv_at hl 2 rfl) ?_
          refine lv_iconst (v := 1) hx hb dX13_image_59 (by decide) ?_
          have hk_1 : (1 : Int32).toInt = 1 := by decide
          refine mz_zast (x := 1) hx hb hK hD hM hS 5 (Nat.le_of_ble_eq_true rfl) rfl (nn := 2) rfl rfl (by omega) (by omega) dX13_image_60 (fun H locs R hM hS hw9 hj9 => ?_)
          have hIR := hIR.put hw9 hj9 trivial
          have hRR := mz_frp (K := [2, 4, 5]) (Fa := Ra) hj9 hRR (by decide)
          refine lv_aload_n hx hb dX13_image_61 rfl (lv_at hl 1 rfl) ?_
          refine lv_iconst (v := 0) hx hb dX13_image_62 (by decide) ?_
          have hk_0 : (0 : Int32).toInt = 0 := by decide
          refine mz_Vi (As := [.int 0]) (rest := []) ⟨hx, hb, hml, hown, hts⟩ hK hM hS (k_X13_tell l D cy ld ad am hD _ _ _ _ 0 hIF hIG hIR (by omega) (by omega)) ⟨callB_of 1 hts (wl_in mw_296) rfl rfl rfl (htl _ mw_5) (htl _ mw_293) hd_yX13_tell ⟨(Nat.le_of_ble_eq_true rfl), (Nat.le_of_ble_eq_true rfl)⟩, htl _ mw_294, htl _ mw_295⟩ rfl hl.1 rfl (Nat.le_of_ble_eq_true rfl) dX13_image_63 ⟨(Nat.le_of_ble_eq_true rfl), (Nat.le_of_ble_eq_true rfl)⟩ (fun v139 H locs F G R S hpo hM hS => ?_)
          obtain ⟨hIF, hIG, hIR, hfr9, hrr9, hgr9, hpo140⟩ := hpo
          have hq_v139 := tk_rng v139
          have hFF := mz_fr (K := [0, 1]) (Fa := Fa) hfr9 hFF (by decide)
          have hRR := mz_fr (K := [2, 4, 5]) (Fa := Ra) hrr9 hRR (by decide)
          have hGG := mz_fr (K := []) (Fa := Ga) hgr9 (fun _ _ => rfl) (by decide)
          have hf2 := (hfr9 0 (by decide)).trans hf2
          exact mz_iret (v := v139) hx hb hr rfl hlocks ⟨hIF, hIG, hIR, hFF, hRR, hGG, (by omega), (by omega)⟩ hM hS dX13_image_66
        · have hc132 : ¬ (5560 ≤ v34.toInt) := fun h9 => c9 ((fi_le (show (5560 : Int32).toInt = 5560 by decide) rfl).mpr h9)
          refine lv_aload_n hx hb dX13_image_30 rfl (lv_at hl 1 rfl) ?_
          refine mz_getR hx hb htl hown hK hM 4 (Nat.le_of_ble_eq_true rfl) (Nat.le_of_ble_eq_true rfl) (htl _ mw_189) (fun _ h9 => h9) dX13_image_31 ?_
          refine lv_sipush (v := 5560) hx hb dX13_image_34 (by decide) ?_
          refine lv_iload_n hx hb dX13_image_37 rfl (lv_at hl 2 rfl) ?_
          refine lv_imul hx hb dX13_image_38 ?_
          refine tk_mul (show (5560 : Int32).toInt = 5560 by decide) rfl (by omega) (by omega) (fun v142 h_v142 => ?_)
          refine lv_iload_n hx hb dX13_image_39 rfl (lv_at hl 0 rfl) ?_
          refine lv_iadd hx hb dX13_image_40 ?_
          refine tk_add rfl rfl (by omega) (by omega) (fun v143 h_v143 => ?_)
          refine lv_aload_n hx hb dX13_image_41 rfl (lv_at hl 1 rfl) ?_
          refine mz_getR hx hb htl hown hK hM 3 (Nat.le_of_ble_eq_true rfl) (Nat.le_of_ble_eq_true rfl) (htl _ mw_188) (fun _ h9 => h9) dX13_image_42 ?_
          refine lv_iload_n hx hb dX13_image_45 rfl (lv_at hl 0 rfl) ?_
          refine mz_iald hx hb hK hM 3 (Nat.le_of_ble_eq_true rfl) rfl (nn := 5560) rfl rfl (by omega) (by omega) dX13_image_46 (fun v144 e_v144 => ?_)
          have hq_v144 := tk_rng v144
          refine mz_iast (x := v144) hx hb hK hD hM hS 4 (Nat.le_of_ble_eq_true rfl) rfl (nn := 11120) rfl rfl (by omega) (by omega) dX13_image_47 (fun H locs R hM hS hw9 hj9 => ?_)
          have hIR := hIR.putX hj9 (by decide)
          have hcp := mz_cps (sp := 0) (dp := (5560 * p1.toInt.toNat)) (n := v34.toInt.toNat) hw9 hcp (by omega) (by rw [← e_v144, hcs]; congr 1; have h9 := tk_nat (i := v34) rfl (by omega); omega)
          have hcs := (hj9 3 (by decide)).trans hcs
          have hRR := mz_frp (K := [2, 4, 5]) (Fa := Ra) hj9 hRR (by decide)
          have e_v144 : R 3 (v34 : Int32).toNatClampNeg = _ := (congrFun (hj9 3 (by decide)) _).trans e_v144
          obtain ⟨v146, h_v146, e_v146⟩ := tk_inc v34 1 (by decide) (by omega) (by omega)
          refine lv_iinc (v := v146) (lv' := [(2, .int v146), (0, .ref am), (1, .int p1)]) hx hb dX13_image_48 hl (k := 0) rfl e_v146 (by decide) rfl (fun ls hl => ?_)
          refine lv_goto (tgt := 23) hx hb dX13_image_51 (by decide) ?_
          exact ih_l131 v146 _ _ _ (by omega) (by omega) hM hS hIR hRR (by rw [show v146.toInt.toNat = v34.toInt.toNat + 1 by omega]; exact hcp) hcs (by omega) _ (lv_sub hl [0, 1, 2] rfl)
    have hk_0 : (0 : Int32).toInt = 0 := by decide
    exact hl131 5561 0 _ _ _ (by omega) (by omega) hM hS hIR (fun _ _ => rfl) (by rw [show (0 : Int32).toInt.toNat = 0 by decide, mz_cp0]; exact ecg) ecf (by omega) _ (lv_sub hl [0, 1, 2] rfl)
  · have hc15 : v4.toInt = 0 := (fi_eq rfl (show (0 : Int32).toInt = 0 by decide)).mp c9
    refine lv_aload_n hx hb dX13_image_15 rfl (lv_at hl 0 rfl) ?_
    refine lv_iconst (v := (-1)) hx hb dX13_image_16 (by decide) ?_
    have hk_m1 : ((-1) : Int32).toInt = (-1) := by decide
    refine mz_Vi (As := [.int (-1)]) (rest := []) ⟨hx, hb, hml, hown, hts⟩ hK hM hS (k_X13_tell l D cy ld ad am hD _ _ _ _ (-1) hIF hIG hIR (by omega) (by omega)) ⟨callB_of 1 hts (wl_in mw_296) rfl rfl rfl (htl _ mw_5) (htl _ mw_293) hd_yX13_tell ⟨(Nat.le_of_ble_eq_true rfl), (Nat.le_of_ble_eq_true rfl)⟩, htl _ mw_294, htl _ mw_295⟩ rfl hl.1 rfl (Nat.le_of_ble_eq_true rfl) dX13_image_17 ⟨(Nat.le_of_ble_eq_true rfl), (Nat.le_of_ble_eq_true rfl)⟩ (fun v147 H locs F G R S hpo hM hS => ?_)
    obtain ⟨hIF, hIG, hIR, hfr9, hrr9, hgr9, hpo148⟩ := hpo
    have hq_v147 := tk_rng v147
    have hFF := mz_fr (K := [0, 1]) (Fa := Fa) hfr9 hFF (by decide)
    have hRR := mz_fr (K := [2, 4, 5]) (Fa := Ra) hrr9 (fun _ _ => rfl) (by decide)
    have hGG := mz_fr (K := []) (Fa := Ga) hgr9 (fun _ _ => rfl) (by decide)
    have hf2 := (hfr9 0 (by decide)).trans hf2
    exact mz_iret (v := v147) hx hb hr rfl hlocks ⟨hIF, hIG, hIR, hFF, hRR, hGG, (by omega), (by omega)⟩ hM hS dX13_image_20
