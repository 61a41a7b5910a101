theorem dX13_giveBack_0 : decode cX13_giveBack 0 = .ok (.aload_n 0, 1) := by decide +kernel
theorem dX13_giveBack_1 : decode cX13_giveBack 1 = .ok (.bipush 22, 2) := by decide +kernel
theorem dX13_giveBack_3 : decode cX13_giveBack 3 = .ok (.invokevirtual 187, 3) := by decide +kernel
theorem dX13_giveBack_6 : decode cX13_giveBack 6 = .ok (.iconst 0, 1) := by decide +kernel
theorem dX13_giveBack_7 : decode cX13_giveBack 7 = .ok (.istore_n 2, 1) := by decide +kernel
theorem dX13_giveBack_8 : decode cX13_giveBack 8 = .ok (.iload_n 2, 1) := by decide +kernel
theorem dX13_giveBack_9 : decode cX13_giveBack 9 = .ok (.sipush 832, 3) := by decide +kernel
theorem dX13_giveBack_12 : decode cX13_giveBack 12 = .ok (.if_icmp .ge 21, 3) := by decide +kernel
theorem dX13_giveBack_33 : decode cX13_giveBack 33 = .ok (.iconst 0, 1) := by decide +kernel
theorem dX13_giveBack_34 : decode cX13_giveBack 34 = .ok (.istore_n 2, 1) := by decide +kernel
theorem dX13_giveBack_35 : decode cX13_giveBack 35 = .ok (.iload_n 2, 1) := by decide +kernel
theorem dX13_giveBack_36 : decode cX13_giveBack 36 = .ok (.bipush 16, 2) := by decide +kernel
theorem dX13_giveBack_38 : decode cX13_giveBack 38 = .ok (.if_icmp .ge 21, 3) := by decide +kernel
theorem dX13_giveBack_59 : decode cX13_giveBack 59 = .ok (.aload_n 0, 1) := by decide +kernel
theorem dX13_giveBack_60 : decode cX13_giveBack 60 = .ok (.iload_n 1, 1) := by decide +kernel
theorem dX13_giveBack_61 : decode cX13_giveBack 61 = .ok (.putfield 176, 3) := by decide +kernel
theorem dX13_giveBack_64 : decode cX13_giveBack 64 = .ok (.return_, 1) := by decide +kernel
theorem dX13_giveBack_41 : decode cX13_giveBack 41 = .ok (.aload_n 0, 1) := by decide +kernel
theorem dX13_giveBack_42 : decode cX13_giveBack 42 = .ok (.getfield 26, 3) := by decide +kernel
theorem dX13_giveBack_45 : decode cX13_giveBack 45 = .ok (.iload_n 2, 1) := by decide +kernel
theorem dX13_giveBack_46 : decode cX13_giveBack 46 = .ok (.aload_n 0, 1) := by decide +kernel
theorem dX13_giveBack_47 : decode cX13_giveBack 47 = .ok (.getfield 32, 3) := by decide +kernel
theorem dX13_giveBack_50 : decode cX13_giveBack 50 = .ok (.iload_n 2, 1) := by decide +kernel
theorem dX13_giveBack_51 : decode cX13_giveBack 51 = .ok (.iaload, 1) := by decide +kernel
theorem dX13_giveBack_52 : decode cX13_giveBack 52 = .ok (.iastore, 1) := by decide +kernel
theorem dX13_giveBack_53 : decode cX13_giveBack 53 = .ok (.iinc 2 1, 3) := by decide +kernel
theorem dX13_giveBack_56 : decode cX13_giveBack 56 = .ok (.goto (-21), 3) := by decide +kernel
theorem dX13_giveBack_15 : decode cX13_giveBack 15 = .ok (.aload_n 0, 1) := by decide +kernel
theorem dX13_giveBack_16 : decode cX13_giveBack 16 = .ok (.getfield 23, 3) := by decide +kernel
theorem dX13_giveBack_19 : decode cX13_giveBack 19 = .ok (.iload_n 2, 1) := by decide +kernel
theorem dX13_giveBack_20 : decode cX13_giveBack 20 = .ok (.aload_n 0, 1) := by decide +kernel
theorem dX13_giveBack_21 : decode cX13_giveBack 21 = .ok (.getfield 29, 3) := by decide +kernel
theorem dX13_giveBack_24 : decode cX13_giveBack 24 = .ok (.iload_n 2, 1) := by decide +kernel
theorem dX13_giveBack_25 : decode cX13_giveBack 25 = .ok (.iaload, 1) := by decide +kernel
theorem dX13_giveBack_26 : decode cX13_giveBack 26 = .ok (.iastore, 1) := by decide +kernel
theorem dX13_giveBack_27 : decode cX13_giveBack 27 = .ok (.iinc 2 1, 3) := by decide +kernel
theorem dX13_giveBack_30 : decode cX13_giveBack 30 = .ok (.goto (-22), 3) := by decide +kernel
set_option maxHeartbeats 4000000 in
set_option maxRecDepth 100000 in
theorem k_X13_giveBack (l : Launch) (D : va_G) (cy : Nat → ClassId) (ld ad : Nat → Nat) (am : Nat) (hD : mz_D ad am) (Fa : Nat → Int32) (Ga : Nat → Int64) (Ra : Nat → Nat → Int32) (Sa : Nat → Nat → Int64) (p1 : Int32) (hIF : mz_IF true Fa) (hIG : mz_IG Ga) (hIR : mz_IR [] true Ra) (hp_0 : 0 ≤ p1.toInt) (hp_1 : p1.toInt ≤ 16) : Met l yX13_giveBack (wl yX13_giveBack cX13_giveBack 3 none) ({ frames := 4, cells := 0, slots := 0, locals := 210 }) (mz_p D cy ld ad am Fa Ga Ra Sa [.ref am, .int p1]) (mz_w D cy ad am (fun F G R S => mz_IF true F ∧ mz_IG G ∧ mz_IR [] true R ∧ (∀ k : Nat, k ∉ ([8] : List Nat) → F k = Fa k) ∧ (∀ k : Nat, k ∉ ([3, 6, 7] : List Nat) → R k = Ra k) ∧ (∀ k : Nat, k ∉ ([] : List Nat) → G k = Ga k) ∧ rK1 (Ra 3) (R 3))) 0 0 (mz_W ad am) := by
  refine mz_met (y := yX13_giveBack) (cc := cX13_giveBack) (maxL := 3) (ret := none) (av := [.ref am, .int p1]) _ (by decide) (Nat.le_of_ble_eq_true rfl) ?_
  intro p e s m args below meth c hx hb hr hml hts htl hown hlocks hK H locs hM hS ls hl
  have hown : s.vm.findClass RX13 = some m.cls := hown
  have hl : lv_has ls 3 [(0, .ref am), (1, .int p1)] := hl
  have hr_p1 := tk_rng p1
  refine lv_aload_n hx hb dX13_giveBack_0 rfl (lv_at hl 0 rfl) ?_
  refine lv_bipush (v := 22) hx hb dX13_giveBack_1 (by decide) ?_
  have hk_22 : (22 : Int32).toInt = 22 := by decide
  refine mz_Vv (As := [.int 22]) (rest := []) ⟨hx, hb, hml, hown, hts⟩ hK hM hS (k_X13_putBack l D cy ld ad am hD _ _ _ _ 22 hIF hIG hIR (by omega) (by omega)) ⟨callB_of 1 hts (wl_in mw_1162) rfl rfl rfl (htl _ mw_5) (htl _ mw_1159) hd_yX13_putBack ⟨(Nat.le_of_ble_eq_true rfl), (Nat.le_of_ble_eq_true rfl)⟩, htl _ mw_1160, htl _ mw_1161⟩ rfl hl.1 rfl (Nat.le_of_ble_eq_true rfl) dX13_giveBack_3 ⟨(Nat.le_of_ble_eq_true rfl), (Nat.le_of_ble_eq_true rfl)⟩ (fun H locs F G R S hpo hM hS => ?_)
  obtain ⟨hIF, hIG, hIR, hfr9, hrr9, hgr9, hrel9⟩ := hpo
  have hFF := mz_fr (K := [8]) (Fa := Fa) hfr9 (fun _ _ => rfl) (by decide)
  have hRR := mz_fr (K := [3, 6, 7]) (Fa := Ra) hrr9 (fun _ _ => rfl) (by decide)
  have hGG := mz_fr (K := []) (Fa := Ga) hgr9 (fun _ _ => rfl) (by decide)
  have hrel := (rK1.refl rfl).trans hrel9
  refine lv_iconst (v := 0) hx hb dX13_giveBack_6 (by decide) ?_
  refine lv_istore_n (lv' := [(2, .int 0), (0, .ref am), (1, .int p1)]) hx hb dX13_giveBack_7 rfl hl (by decide) rfl (fun ls hl => ?_)
  have hI9 := hIR
  have hIR := hIR.hole (X := [6])
  obtain ⟨cf, ecf⟩ : ∃ z : Nat → Int32, R 9 = z := ⟨_, rfl⟩
  obtain ⟨cg, ecg⟩ : ∃ z : Nat → Int32, R 6 = z := ⟨_, rfl⟩
  have hl368 : ∀ (N_l368 : Nat) (v94 : Int32) (H : Heap) (locs : List Loc) (R : Nat → Nat → Int32), (0 ≤ v94.toInt) → (v94.toInt ≤ 832) → (mz_S D cy ad am F G R S H) → (va_S (mz_W ad am) s.heap H locs) → (mz_IR [6] true R) → (∀ k : Nat, k ∉ ([3, 6, 7] : List Nat) → R k = Ra k) → (rK1 (Ra 3) (R 3)) → (R 6 = va_cpy cf cg 0 0 v94.toInt.toNat) → (R 9 = cf) → ((-1) * v94.toInt + 998 < (N_l368 : Int)) → ∀ ls : Array Slot, lv_has ls 3 [(2, .int v94), (0, .ref am), (1, .int p1)] → W p l e ({ frames := 4, cells := 0, slots := 0, locals := 210 }) s m args below meth c H locs 0 0 (MQ below (mz_w D cy ad am (fun F G R S => mz_IF true F ∧ mz_IG G ∧ mz_IR [] true R ∧ (∀ k : Nat, k ∉ ([8] : List Nat) → F k = Fa k) ∧ (∀ k : Nat, k ∉ ([3, 6, 7] : List Nat) → R k = Ra k) ∧ (∀ k : Nat, k ∉ ([] : List Nat) → G k = Ga k) ∧ rK1 (Ra 3) (R 3))) args s 0 0 (mz_W ad am)) (F0 m 8 ls []) := by
    intro N_l368
    induction N_l368 with
    | zero => intro v94 H locs R hq0_l368 hq1_l368 hM hS hIR hRR hrel hcp hcs hm_l368 ls hl; exfalso; omega
    | succ N_l368 ih_l368 =>
      intro v94 H locs R hq0_l368 hq1_l368 hM hS hIR hRR hrel hcp hcs hm_l368 ls hl
      refine lv_iload_n hx hb dX13_giveBack_8 rfl (lv_at hl 0 rfl) ?_
      refine lv_sipush (v := 832) hx hb dX13_giveBack_9 (by decide) ?_
      refine lv_icmp_ge (tgt := 33) hx hb dX13_giveBack_12 (by decide) (fun c9 => ?_) (fun c9 => ?_)
      · have hc369 : 832 ≤ v94.toInt := (fi_le (show (832 : Int32).toInt = 832 by decide) rfl).mp c9
        have e9 : v94.toInt.toNat = 832 := by omega
        rw [e9] at hcp
        have hIR := hIR.close (by rw [hcp]; exact mz_aft (by rw [← ecf]; exact hI9.at 9) (by rw [← ecg]; exact hI9.at 6))
        refine lv_iconst (v := 0) hx hb dX13_giveBack_33 (by decide) ?_
        refine lv_istore_n (lv' := [(2, .int 0), (0, .ref am), (1, .int p1)]) hx hb dX13_giveBack_34 rfl hl (by decide) rfl (fun ls hl => ?_)
        have hl432 : ∀ (N_l432 : Nat) (v373 : Int32) (H : Heap) (locs : List Loc) (R : Nat → Nat → Int32), (v373.toInt ≤ 16) → (0 ≤ v373.toInt) → (mz_S D cy ad am F G R S H) → (va_S (mz_W ad am) s.heap H locs) → (mz_IR [] true R) → (∀ k : Nat, k ∉ ([3, 6, 7] : List Nat) → R k = Ra k) → (rK1 (Ra 3) (R 3)) → ((-1) * v373.toInt + 16 < (N_l432 : Int)) → ∀ ls : Array Slot, lv_has ls 3 [(2, .int v373), (0, .ref am), (1, .int p1)] → W p l e ({ frames := 4, cells := 0, slots := 0, locals := 210 }) s m args below meth c H locs 0 0 (MQ below (mz_w D cy ad am (fun F G R S => mz_IF true F ∧ mz_IG G ∧ mz_IR [] true R ∧ (∀ k : Nat, k ∉ ([8] : List Nat) → F k = Fa k) ∧ (∀ k : Nat, k ∉ ([3, 6, 7] : List Nat) → R k = Ra k) ∧ (∀ k : Nat, k ∉ ([] : List Nat) → G k = Ga k) ∧ rK1 (Ra 3) (R 3))) args s 0 0 (mz_W ad am)) (F0 m 35 ls []) := by
          intro N_l432
          induction N_l432 with
          | zero => intro v373 H locs R hq0_l432 hq1_l432 hM hS hIR hRR hrel hm_l432 ls hl; exfalso; omega
          | succ N_l432 ih_l432 =>
            intro v373 H locs R hq0_l432 hq1_l432 hM hS hIR hRR hrel hm_l432 ls hl
            refine lv_iload_n hx hb dX13_giveBack_35 rfl (lv_at hl 0 rfl) ?_
            refine lv_bipush (v := 16) hx hb dX13_giveBack_36 (by decide) ?_
            refine lv_icmp_ge (tgt := 59) hx hb dX13_giveBack_38 (by decide) (fun c9 => ?_) (fun c9 => ?_)
            · have hc433 : 16 ≤ v373.toInt := (fi_le (show (16 : Int32).toInt = 16 by decide) rfl).mp c9
              refine lv_aload_n hx hb dX13_giveBack_59 rfl (lv_at hl 1 rfl) ?_
              refine lv_iload_n hx hb dX13_giveBack_60 rfl (lv_at hl 2 rfl) ?_
              refine mz_putI (ty := .int) (x := p1) hx hb htl hown hK hD hM hS 8 (Nat.le_of_ble_eq_true rfl) rfl (htl _ mw_289) (fun _ h9 => h9) rfl (tyX13_ok 8 (by decide)) rfl rfl dX13_giveBack_61 (fun H locs F hM hS hf9 hj9 => ?_)
              have hIF := hIF.put hf9 hj9 (show 0 ≤ (p1 : Int32).toInt by omega) (show (p1 : Int32).toInt ≤ 16 by omega) (by decide)
              have hFF := mz_frp (K := [8]) (Fa := Fa) hj9 hFF (by decide)
              have hf438 := hf9
              exact mz_vret hx hb hr hlocks ⟨hIF, hIG, hIR, hFF, hRR, hGG, hrel⟩ hM hS dX13_giveBack_64
            · have hc433 : ¬ (16 ≤ v373.toInt) := fun h9 => c9 ((fi_le (show (16 : Int32).toInt = 16 by decide) rfl).mpr h9)
              refine lv_aload_n hx hb dX13_giveBack_41 rfl (lv_at hl 1 rfl) ?_
              refine mz_getR hx hb htl hown hK hM 7 (Nat.le_of_ble_eq_true rfl) (Nat.le_of_ble_eq_true rfl) (htl _ mw_192) (fun _ h9 => h9) dX13_giveBack_42 ?_
              refine lv_iload_n hx hb dX13_giveBack_45 rfl (lv_at hl 0 rfl) ?_
              refine lv_aload_n hx hb dX13_giveBack_46 rfl (lv_at hl 1 rfl) ?_
              refine mz_getR hx hb htl hown hK hM 10 (Nat.le_of_ble_eq_true rfl) (Nat.le_of_ble_eq_true rfl) (htl _ mw_194) (fun _ h9 => h9) dX13_giveBack_47 ?_
              refine lv_iload_n hx hb dX13_giveBack_50 rfl (lv_at hl 0 rfl) ?_
              refine mz_iald hx hb hK hM 10 (Nat.le_of_ble_eq_true rfl) rfl (nn := 16) rfl rfl (by omega) (by omega) dX13_giveBack_51 (fun v439 e_v439 => ?_)
              have hq_v439 := tk_rng v439
              have he_v439 : 0 ≤ v439.toInt ∧ v439.toInt ≤ 3 := mz_elg (n := 16) (hIR.at 10) e_v439 rfl (by omega) (by omega)
              refine mz_iast (x := v439) hx hb hK hD hM hS 7 (Nat.le_of_ble_eq_true rfl) rfl (nn := 16) rfl rfl (by omega) (by omega) dX13_giveBack_52 (fun H locs R hM hS hw9 hj9 => ?_)
              have hIR := hIR.put hw9 hj9 (mz_elp (hIR.at 7) (show 0 ≤ (v439 : Int32).toInt by omega) (show (v439 : Int32).toInt ≤ 3 by omega))
              have hRR := mz_frp (K := [3, 6, 7]) (Fa := Ra) hj9 hRR (by decide)
              have hrel : rK1 (Ra 3) (R 3) := (hj9 3 (by decide)) ▸ hrel
              have e_v439 : R 10 (v373 : Int32).toNatClampNeg = _ := (congrFun (hj9 10 (by decide)) _).trans e_v439
              obtain ⟨v441, h_v441, e_v441⟩ := tk_inc v373 1 (by decide) (by omega) (by omega)
              refine lv_iinc (v := v441) (lv' := [(2, .int v441), (0, .ref am), (1, .int p1)]) hx hb dX13_giveBack_53 hl (k := 0) rfl e_v441 (by decide) rfl (fun ls hl => ?_)
              refine lv_goto (tgt := 35) hx hb dX13_giveBack_56 (by decide) ?_
              exact ih_l432 v441 _ _ _ (by omega) (by omega) hM hS hIR hRR hrel (by omega) _ (lv_sub hl [0, 1, 2] rfl)
        have hk_0 : (0 : Int32).toInt = 0 := by decide
        exact hl432 17 0 _ _ _ (by omega) (by omega) hM hS hIR hRR hrel (by omega) _ (lv_sub hl [0, 1, 2] rfl)
      · have hc369 : ¬ (832 ≤ v94.toInt) := fun h9 => c9 ((fi_le (show (832 : Int32).toInt = 832 by decide) rfl).mpr h9)
        refine lv_aload_n hx hb dX13_giveBack_15 rfl (lv_at hl 1 rfl) ?_
        refine mz_getR hx hb htl hown hK hM 6 (Nat.le_of_ble_eq_true rfl) (Nat.le_of_ble_eq_true rfl) (htl _ mw_191) (fun _ h9 => h9) dX13_giveBack_16 ?_
        refine lv_iload_n hx hb dX13_giveBack_19 rfl (lv_at hl 0 rfl) ?_
        refine lv_aload_n hx hb dX13_giveBack_20 rfl (lv_at hl 1 rfl) ?_
        refine mz_getR hx hb htl hown hK hM 9 (Nat.le_of_ble_eq_true rfl) (Nat.le_of_ble_eq_true rfl) (htl _ mw_193) (fun _ h9 => h9) dX13_giveBack_21 ?_
        refine lv_iload_n hx hb dX13_giveBack_24 rfl (lv_at hl 0 rfl) ?_
        refine mz_iald hx hb hK hM 9 (Nat.le_of_ble_eq_true rfl) rfl (nn := 832) rfl rfl (by omega) (by omega) dX13_giveBack_25 (fun v442 e_v442 => ?_)
        have hq_v442 := tk_rng v442
        refine mz_iast (x := v442) hx hb hK hD hM hS 6 (Nat.le_of_ble_eq_true rfl) rfl (nn := 1196) rfl rfl (by omega) (by omega) dX13_giveBack_26 (fun H locs R hM hS hw9 hj9 => ?_)
        have hIR := hIR.putX hj9 (by decide)
        have hcp := mz_cps (sp := 0) (dp := 0) (n := v94.toInt.toNat) hw9 hcp (by omega) (by rw [← e_v442, hcs]; congr 1; have h9 := tk_nat (i := v94) rfl (by omega); omega)
        have hcs := (hj9 9 (by decide)).trans hcs
        have hRR := mz_frp (K := [3, 6, 7]) (Fa := Ra) hj9 hRR (by decide)
        have hrel : rK1 (Ra 3) (R 3) := (hj9 3 (by decide)) ▸ hrel
        have e_v442 : R 9 (v94 : Int32).toNatClampNeg = _ := (congrFun (hj9 9 (by decide)) _).trans e_v442
        obtain ⟨v444, h_v444, e_v444⟩ := tk_inc v94 1 (by decide) (by omega) (by omega)
        refine lv_iinc (v := v444) (lv' := [(2, .int v444), (0, .ref am), (1, .int p1)]) hx hb dX13_giveBack_27 hl (k := 0) rfl e_v444 (by decide) rfl (fun ls hl => ?_)
        refine lv_goto (tgt := 8) hx hb dX13_giveBack_30 (by decide) ?_
        exact ih_l368 v444 _ _ _ (by omega) (by omega) hM hS hIR hRR hrel (by rw [show v444.toInt.toNat = v94.toInt.toNat + 1 by omega]; exact hcp) hcs (by omega) _ (lv_sub hl [0, 1, 2] rfl)
  have hk_0 : (0 : Int32).toInt = 0 := by decide
  exact hl368 999 0 _ _ _ (by omega) (by omega) hM hS hIR hRR hrel (by rw [show (0 : Int32).toInt.toNat = 0 by decide, mz_cp0]; exact ecg) ecf (by omega) _ (lv_sub hl [0, 1, 2] rfl)
