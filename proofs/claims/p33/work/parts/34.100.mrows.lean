theorem hd_yX13_canSing : yX13_canSing.cls ≠ "java/lang/invoke/MethodHandle" ∧ yX13_canSing.cls ≠ "java/lang/invoke/VarHandle" ∧ (parseMethodDescriptor yX13_canSing.desc).map (fun d => d.parameters.length) = some 1 := by decide +kernel
theorem dX13_loudest_0 : decode cX13_loudest 0 = .ok (.iconst (-1), 1) := by decide +kernel
theorem dX13_loudest_1 : decode cX13_loudest 1 = .ok (.istore_n 1, 1) := by decide +kernel
theorem dX13_loudest_2 : decode cX13_loudest 2 = .ok (.iconst (-1), 1) := by decide +kernel
theorem dX13_loudest_3 : decode cX13_loudest 3 = .ok (.istore_n 2, 1) := by decide +kernel
theorem dX13_loudest_4 : decode cX13_loudest 4 = .ok (.iconst 0, 1) := by decide +kernel
theorem dX13_loudest_5 : decode cX13_loudest 5 = .ok (.istore_n 3, 1) := by decide +kernel
theorem dX13_loudest_6 : decode cX13_loudest 6 = .ok (.iload_n 3, 1) := by decide +kernel
theorem dX13_loudest_7 : decode cX13_loudest 7 = .ok (.aload_n 0, 1) := by decide +kernel
theorem dX13_loudest_8 : decode cX13_loudest 8 = .ok (.getfield 13, 3) := by decide +kernel
theorem dX13_loudest_11 : decode cX13_loudest 11 = .ok (.iconst 1, 1) := by decide +kernel
theorem dX13_loudest_12 : decode cX13_loudest 12 = .ok (.iaload, 1) := by decide +kernel
theorem dX13_loudest_13 : decode cX13_loudest 13 = .ok (.if_icmp .ge 53, 3) := by decide +kernel
theorem dX13_loudest_66 : decode cX13_loudest 66 = .ok (.iload_n 1, 1) := by decide +kernel
theorem dX13_loudest_67 : decode cX13_loudest 67 = .ok (.ireturn, 1) := by decide +kernel
theorem dX13_loudest_16 : decode cX13_loudest 16 = .ok (.aload_n 0, 1) := by decide +kernel
theorem dX13_loudest_17 : decode cX13_loudest 17 = .ok (.iload_n 3, 1) := by decide +kernel
theorem dX13_loudest_18 : decode cX13_loudest 18 = .ok (.invokevirtual 501, 3) := by decide +kernel
theorem dX13_loudest_60 : decode cX13_loudest 60 = .ok (.iinc 3 1, 3) := by decide +kernel
theorem dX13_loudest_63 : decode cX13_loudest 63 = .ok (.goto (-57), 3) := by decide +kernel
theorem dX13_loudest_21 : decode cX13_loudest 21 = .ok (.ifCond .eq 39, 3) := by decide +kernel
theorem dX13_loudest_24 : decode cX13_loudest 24 = .ok (.aload_n 0, 1) := by decide +kernel
theorem dX13_loudest_25 : decode cX13_loudest 25 = .ok (.iload_n 3, 1) := by decide +kernel
theorem dX13_loudest_26 : decode cX13_loudest 26 = .ok (.invokevirtual 437, 3) := by decide +kernel
theorem dX13_loudest_29 : decode cX13_loudest 29 = .ok (.aload_n 0, 1) := by decide +kernel
theorem dX13_loudest_30 : decode cX13_loudest 30 = .ok (.invokevirtual 440, 3) := by decide +kernel
theorem dX13_loudest_33 : decode cX13_loudest 33 = .ok (.istore 4, 2) := by decide +kernel
theorem dX13_loudest_35 : decode cX13_loudest 35 = .ok (.iload 4, 2) := by decide +kernel
theorem dX13_loudest_37 : decode cX13_loudest 37 = .ok (.iload_n 2, 1) := by decide +kernel
theorem dX13_loudest_46 : decode cX13_loudest 46 = .ok (.istore_n 1, 1) := by decide +kernel
theorem dX13_loudest_47 : decode cX13_loudest 47 = .ok (.iload 4, 2) := by decide +kernel
theorem dX13_loudest_49 : decode cX13_loudest 49 = .ok (.iload_n 2, 1) := by decide +kernel
theorem dX13_loudest_59 : decode cX13_loudest 59 = .ok (.istore_n 2, 1) := by decide +kernel
theorem dX13_loudest_50 : decode cX13_loudest 50 = .ok (.if_icmp .le 8, 3) := by decide +kernel
theorem dX13_loudest_58 : decode cX13_loudest 58 = .ok (.iload_n 2, 1) := by decide +kernel
theorem dX13_loudest_53 : decode cX13_loudest 53 = .ok (.iload 4, 2) := by decide +kernel
theorem dX13_loudest_55 : decode cX13_loudest 55 = .ok (.goto 4, 3) := by decide +kernel
theorem dX13_loudest_38 : decode cX13_loudest 38 = .ok (.if_icmp .le 7, 3) := by decide +kernel
theorem dX13_loudest_45 : decode cX13_loudest 45 = .ok (.iload_n 1, 1) := by decide +kernel
theorem dX13_loudest_41 : decode cX13_loudest 41 = .ok (.iload_n 3, 1) := by decide +kernel
theorem dX13_loudest_42 : decode cX13_loudest 42 = .ok (.goto 4, 3) := by decide +kernel
set_option maxHeartbeats 4000000 in
set_option maxRecDepth 100000 in
theorem k_X13_loudest (l : Launch) (D : va_G) (cy : Nat → ClassId) (ld ad : Nat → Nat) (am : Nat) (hD : mz_D ad am) (Fa : Nat → Int32) (Ga : Nat → Int64) (Ra : Nat → Nat → Int32) (Sa : Nat → Nat → Int64) (hIF : mz_IF true Fa) (hIG : mz_IG Ga) (hIR : mz_IR [] true Ra) : Met l yX13_loudest (wl yX13_loudest cX13_loudest 5 (some .int)) ({ frames := 10, cells := 0, slots := 0, locals := 630 }) (mz_p D cy ld ad am Fa Ga Ra Sa [.ref am]) (mz_i D cy ad am (fun r F G R S => mz_IF true F ∧ mz_IG G ∧ mz_IR [] true R ∧ (∀ k : Nat, k ∉ ([34, 38] : List Nat) → F k = Fa k) ∧ (∀ k : Nat, k ∉ ([] : List Nat) → R k = Ra k) ∧ (∀ k : Nat, k ∉ ([39, 40] : List Nat) → G k = Ga k) ∧ (-1) ≤ r.toInt ∧ r.toInt ≤ 9)) 0 0 (mz_W ad am) := by
  refine mz_met (y := yX13_loudest) (cc := cX13_loudest) (maxL := 5) (ret := (some .int)) (av := [.ref am]) _ (by decide) (Nat.le_of_ble_eq_true rfl) ?_
  intro p e s m args below meth c hx hb hr hml hts htl hown hlocks hK H locs hM hS ls hl
  have hown : s.vm.findClass RX13 = some m.cls := hown
  have hl : lv_has ls 5 [(0, .ref am)] := hl
  refine lv_iconst (v := (-1)) hx hb dX13_loudest_0 (by decide) ?_
  refine lv_istore_n (lv' := [(1, .int (-1)), (0, .ref am)]) hx hb dX13_loudest_1 rfl hl (by decide) rfl (fun ls hl => ?_)
  refine lv_iconst (v := (-1)) hx hb dX13_loudest_2 (by decide) ?_
  refine lv_istore_n (lv' := [(2, .int (-1)), (1, .int (-1)), (0, .ref am)]) hx hb dX13_loudest_3 rfl hl (by decide) rfl (fun ls hl => ?_)
  refine lv_iconst (v := 0) hx hb dX13_loudest_4 (by decide) ?_
  refine lv_istore_n (lv' := [(3, .int 0), (2, .int (-1)), (1, .int (-1)), (0, .ref am)]) hx hb dX13_loudest_5 rfl hl (by decide) rfl (fun ls hl => ?_)
  have hl745 : ∀ (N_l745 : Nat) (v93 : Int32) (v94 : Int32) (v95 : Int32) (H : Heap) (locs : List Loc) (F : Nat → Int32) (G : Nat → Int64) (R : Nat → Nat → Int32) (S : Nat → Nat → Int64), (v93.toInt ≤ 10) → ((-1) ≤ v94.toInt) → ((-1) ≤ v95.toInt) → (0 ≤ v93.toInt + (-1) * v95.toInt + (-1)) → (v94.toInt ≤ 1000000000) → (mz_S D cy ad am F G R S H) → (va_S (mz_W ad am) s.heap H locs) → (mz_IF true F) → (mz_IG G) → (mz_IR [] true R) → (∀ k : Nat, k ∉ ([34, 38] : List Nat) → F k = Fa k) → (∀ k : Nat, k ∉ ([39, 40] : List Nat) → G k = Ga k) → (∀ k : Nat, k ∉ ([] : List Nat) → R k = Ra k) → ((-1) * v93.toInt + 10 < (N_l745 : Int)) → ∀ ls : Array Slot, lv_has ls 5 [(3, .int v93), (2, .int v94), (1, .int v95), (0, .ref am)] → W p l e ({ frames := 10, cells := 0, slots := 0, locals := 630 }) s m args below meth c H locs 0 0 (MQ below (mz_i D cy ad am (fun r F G R S => mz_IF true F ∧ mz_IG G ∧ mz_IR [] true R ∧ (∀ k : Nat, k ∉ ([34, 38] : List Nat) → F k = Fa k) ∧ (∀ k : Nat, k ∉ ([] : List Nat) → R k = Ra k) ∧ (∀ k : Nat, k ∉ ([39, 40] : List Nat) → G k = Ga k) ∧ (-1) ≤ r.toInt ∧ r.toInt ≤ 9)) args s 0 0 (mz_W ad am)) (F0 m 6 ls []) := by
    intro N_l745
    induction N_l745 with
    | zero => intro v93 v94 v95 H locs F G R S hq0_l745 hq1_l745 hq2_l745 hq3_l745 hq4_l745 hM hS hIF hIG hIR hFF hGG hRR hm_l745 ls hl; exfalso; omega
    | succ N_l745 ih_l745 =>
      intro v93 v94 v95 H locs F G R S hq0_l745 hq1_l745 hq2_l745 hq3_l745 hq4_l745 hM hS hIF hIG hIR hFF hGG hRR hm_l745 ls hl
      refine lv_iload_n hx hb dX13_loudest_6 rfl (lv_at hl 0 rfl) ?_
      refine lv_aload_n hx hb dX13_loudest_7 rfl (lv_at hl 3 rfl) ?_
      refine mz_getR hx hb htl hown hK hM 3 (Nat.le_of_ble_eq_true rfl) (Nat.le_of_ble_eq_true rfl) (htl _ mw_188) (fun _ h9 => h9) dX13_loudest_8 ?_
      refine lv_iconst (v := 1) hx hb dX13_loudest_11 (by decide) ?_
      refine mz_iald hx hb hK hM 3 (Nat.le_of_ble_eq_true rfl) rfl (nn := 5560) rfl (I := 1) (by decide) (by decide) (by decide) dX13_loudest_12 (fun v747 hf746 => ?_)
      have hf746 : R 3 1 = v747 := hf746
      have hq_v747 := tk_rng v747
      have hr_v747 : 0 ≤ v747.toInt ∧ v747.toInt ≤ 10 := by have h9 := mz_r3c 1 (hIR.at 3) hf746 (by decide); unfold mE at h9; omega
      refine lv_icmp_ge (tgt := 66) hx hb dX13_loudest_13 (by decide) (fun c9 => ?_) (fun c9 => ?_)
      · have hc748 : v747.toInt ≤ v93.toInt := (fi_le rfl rfl).mp c9
        refine lv_iload_n hx hb dX13_loudest_66 rfl (lv_at hl 2 rfl) ?_
        exact mz_iret (v := v95) hx hb hr rfl hlocks ⟨hIF, hIG, hIR, hFF, hRR, hGG, (by omega), (by omega)⟩ hM hS dX13_loudest_67
      · have hc748 : ¬ (v747.toInt ≤ v93.toInt) := fun h9 => c9 ((fi_le rfl rfl).mpr h9)
        refine lv_aload_n hx hb dX13_loudest_16 rfl (lv_at hl 3 rfl) ?_
        refine lv_iload_n hx hb dX13_loudest_17 rfl (lv_at hl 0 rfl) ?_
        refine mz_Vi (As := [.int v93]) (rest := []) ⟨hx, hb, hml, hown, hts⟩ hK hM hS (k_X13_canSing l D cy ld ad am hD _ _ _ _ v93 hIF hIG hIR (by omega) (by omega)) ⟨callB_of 1 hts (wl_in mw_1326) rfl rfl rfl (htl _ mw_5) (htl _ mw_1323) hd_yX13_canSing ⟨(Nat.le_of_ble_eq_true rfl), (Nat.le_of_ble_eq_true rfl)⟩, htl _ mw_1324, htl _ mw_1325⟩ rfl hl.1 rfl (Nat.le_of_ble_eq_true rfl) dX13_loudest_18 ⟨(Nat.le_of_ble_eq_true rfl), (Nat.le_of_ble_eq_true rfl)⟩ (fun v790 H locs F G R S hpo hM hS => ?_)
        obtain ⟨hIF, hIG, hIR, hfr9, hrr9, hgr9, hpo791, hpo792, hpo793, hpo794⟩ := hpo
        have hq_v790 := tk_rng v790
        have hFF := mz_fr (K := [34, 38]) (Fa := Fa) hfr9 hFF (by decide)
        have hRR := mz_fr (K := []) (Fa := Ra) hrr9 hRR (by decide)
        have hGG := mz_fr (K := [39, 40]) (Fa := Ga) hgr9 hGG (by decide)
        have hf746 : R 3 1 = _ := (congrFun (hrr9 3 (by decide)) 1).trans hf746
        have hj816 : ∀ (v813 : Int32) (v814 : Int32) (H : Heap) (locs : List Loc) (F : Nat → Int32) (G : Nat → Int64) (R : Nat → Nat → Int32) (S : Nat → Nat → Int64), (v813.toInt ≤ 1000000000) → (0 ≤ v813.toInt + (-1) * v94.toInt) → (0 ≤ (-1) * v814.toInt + v93.toInt) → (0 ≤ v814.toInt + (-1) * v95.toInt) → (mz_S D cy ad am F G R S H) → (va_S (mz_W ad am) s.heap H locs) → (mz_IF true F) → (mz_IG G) → (mz_IR [] true R) → (∀ k : Nat, k ∉ ([34, 38] : List Nat) → F k = Fa k) → (∀ k : Nat, k ∉ ([39, 40] : List Nat) → G k = Ga k) → (∀ k : Nat, k ∉ ([] : List Nat) → R k = Ra k) → (R 3 1 = v747) → ∀ ls : Array Slot, lv_has ls 5 [(3, .int v93), (2, .int v813), (1, .int v814), (0, .ref am)] → W p l e ({ frames := 10, cells := 0, slots := 0, locals := 630 }) s m args below meth c H locs 0 0 (MQ below (mz_i D cy ad am (fun r F G R S => mz_IF true F ∧ mz_IG G ∧ mz_IR [] true R ∧ (∀ k : Nat, k ∉ ([34, 38] : List Nat) → F k = Fa k) ∧ (∀ k : Nat, k ∉ ([] : List Nat) → R k = Ra k) ∧ (∀ k : Nat, k ∉ ([39, 40] : List Nat) → G k = Ga k) ∧ (-1) ≤ r.toInt ∧ r.toInt ≤ 9)) args s 0 0 (mz_W ad am)) (F0 m 60 ls []) := by
          intro v813 v814 H locs F G R S hq0_j816 hq1_j816 hq2_j816 hq3_j816 hM hS hIF hIG hIR hFF hGG hRR hf746 ls hl
          obtain ⟨v817, h_v817, e_v817⟩ := tk_inc v93 1 (by decide) (by omega) (by omega)
          refine lv_iinc (v := v817) (lv' := [(3, .int v817), (2, .int v813), (1, .int v814), (0, .ref am)]) hx hb dX13_loudest_60 hl (k := 0) rfl e_v817 (by decide) rfl (fun ls hl => ?_)
          refine lv_goto (tgt := 6) hx hb dX13_loudest_63 (by decide) ?_
          exact ih_l745 v817 v813 v814 _ _ _ _ _ _ (by omega) (by omega) (by omega) (by omega) (by omega) hM hS hIF hIG hIR hFF hGG hRR (by omega) _ (lv_sub hl [0, 1, 2, 3] rfl)
        refine lv_if_eq (tgt := 60) hx hb dX13_loudest_21 (by decide) (fun c9 => ?_) (fun c9 => ?_)
        · have hc796 : v790.toInt = 0 := (fi_eq rfl (show (0 : Int32).toInt = 0 by decide)).mp c9
          exact hj816 v94 v95 _ _ _ _ _ _ (by omega) (by omega) (by omega) (by omega) hM hS hIF hIG hIR hFF hGG hRR hf746 _ (lv_sub hl [0, 1, 2, 3] rfl)
        · have hc796 : ¬ (v790.toInt = 0) := fun h9 => c9 ((fi_eq rfl (show (0 : Int32).toInt = 0 by decide)).mpr h9)
          refine lv_aload_n hx hb dX13_loudest_24 rfl (lv_at hl 3 rfl) ?_
          refine lv_iload_n hx hb dX13_loudest_25 rfl (lv_at hl 0 rfl) ?_
          refine mz_Vv (As := [.int v93]) (rest := []) ⟨hx, hb, hml, hown, hts⟩ hK hM hS (k_X13_layVerse l D cy ld ad am hD _ _ _ _ v93 hIF hIG hIR (by omega) (by omega)) ⟨callB_of 1 hts (wl_in mw_1091) rfl rfl rfl (htl _ mw_5) (htl _ mw_1088) hd_yX13_layVerse ⟨(Nat.le_of_ble_eq_true rfl), (Nat.le_of_ble_eq_true rfl)⟩, htl _ mw_1089, htl _ mw_1090⟩ rfl hl.1 rfl (Nat.le_of_ble_eq_true rfl) dX13_loudest_26 ⟨(Nat.le_of_ble_eq_true rfl), (Nat.le_of_ble_eq_true rfl)⟩ (fun H locs F G R S hpo hM hS => ?_)
          obtain ⟨hIF, hIG, hIR, hfr9, hrr9, hgr9⟩ := hpo
          have hFF := mz_fr (K := [34, 38]) (Fa := Fa) hfr9 hFF (by decide)
          have hRR := mz_fr (K := []) (Fa := Ra) hrr9 hRR (by decide)
          have hGG := mz_fr (K := [39, 40]) (Fa := Ga) hgr9 hGG (by decide)
          have hf746 : R 3 1 = _ := (congrFun (hrr9 3 (by decide)) 1).trans hf746
          refine lv_aload_n hx hb dX13_loudest_29 rfl (lv_at hl 3 rfl) ?_
          refine mz_Vi (As := []) (rest := []) ⟨hx, hb, hml, hown, hts⟩ hK hM hS (k_X13_lullsSet l D cy ld ad am hD _ _ _ _ hIF hIG hIR) ⟨callB_of 0 hts (wl_in mw_1121) rfl rfl rfl (htl _ mw_5) (htl _ mw_1118) hd_yX13_lullsSet ⟨(Nat.le_of_ble_eq_true rfl), (Nat.le_of_ble_eq_true rfl)⟩, htl _ mw_1119, htl _ mw_1120⟩ rfl hl.1 rfl (Nat.le_of_ble_eq_true rfl) dX13_loudest_30 ⟨(Nat.le_of_ble_eq_true rfl), (Nat.le_of_ble_eq_true rfl)⟩ (fun v819 H locs F G R S hpo hM hS => ?_)
          obtain ⟨hIF, hIG, hIR, hfr9, hrr9, hgr9, hpo820, hpo821⟩ := hpo
          have hq_v819 := tk_rng v819
          have hFF := mz_fr (K := [34, 38]) (Fa := Fa) hfr9 hFF (by decide)
          have hRR := mz_fr (K := []) (Fa := Ra) hrr9 hRR (by decide)
          have hGG := mz_fr (K := [39, 40]) (Fa := Ga) hgr9 hGG (by decide)
          have hf746 : R 3 1 = _ := (congrFun (hrr9 3 (by decide)) 1).trans hf746
          refine lv_istore (lv' := [(4, .int v819), (3, .int v93), (2, .int v94), (1, .int v95), (0, .ref am)]) hx hb dX13_loudest_33 hl (by decide) rfl (fun ls hl => ?_)
          refine lv_iload hx hb dX13_loudest_35 (lv_at hl 0 rfl) ?_
          refine lv_iload_n hx hb dX13_loudest_37 rfl (lv_at hl 2 rfl) ?_
          have hj826 : ∀ (v825 : Int32), (0 ≤ (-1) * v825.toInt + v93.toInt) → (0 ≤ v825.toInt + (-1) * v95.toInt) → ∀ ls : Array Slot, lv_has ls 5 [(4, .int v819), (3, .int v93), (2, .int v94), (0, .ref am)] → W p l e ({ frames := 10, cells := 0, slots := 0, locals := 630 }) s m args below meth c H locs 0 0 (MQ below (mz_i D cy ad am (fun r F G R S => mz_IF true F ∧ mz_IG G ∧ mz_IR [] true R ∧ (∀ k : Nat, k ∉ ([34, 38] : List Nat) → F k = Fa k) ∧ (∀ k : Nat, k ∉ ([] : List Nat) → R k = Ra k) ∧ (∀ k : Nat, k ∉ ([39, 40] : List Nat) → G k = Ga k) ∧ (-1) ≤ r.toInt ∧ r.toInt ≤ 9)) args s 0 0 (mz_W ad am)) (F0 m 46 ls [.int v825]) := by
            intro v825 hq0_j826 hq1_j826 ls hl
            refine lv_istore_n (lv' := [(1, .int v825), (4, .int v819), (3, .int v93), (2, .int v94), (0, .ref am)]) hx hb dX13_loudest_46 rfl hl (by decide) rfl (fun ls hl => ?_)
            refine lv_iload hx hb dX13_loudest_47 (lv_at hl 1 rfl) ?_
            refine lv_iload_n hx hb dX13_loudest_49 rfl (lv_at hl 3 rfl) ?_
            have hj830 : ∀ (v829 : Int32), (v829.toInt ≤ 1000000000) → (0 ≤ (-1) * v819.toInt + v829.toInt) → (0 ≤ v829.toInt + (-1) * v94.toInt) → ∀ ls : Array Slot, lv_has ls 5 [(1, .int v825), (3, .int v93), (0, .ref am)] → W p l e ({ frames := 10, cells := 0, slots := 0, locals := 630 }) s m args below meth c H locs 0 0 (MQ below (mz_i D cy ad am (fun r F G R S => mz_IF true F ∧ mz_IG G ∧ mz_IR [] true R ∧ (∀ k : Nat, k ∉ ([34, 38] : List Nat) → F k = Fa k) ∧ (∀ k : Nat, k ∉ ([] : List Nat) → R k = Ra k) ∧ (∀ k : Nat, k ∉ ([39, 40] : List Nat) → G k = Ga k) ∧ (-1) ≤ r.toInt ∧ r.toInt ≤ 9)) args s 0 0 (mz_W ad am)) (F0 m 59 ls [.int v829]) := by
              intro v829 hq0_j830 hq1_j830 hq2_j830 ls hl
              refine lv_istore_n (lv' := [(2, .int v829), (1, .int v825), (3, .int v93), (0, .ref am)]) hx hb dX13_loudest_59 rfl hl (by decide) rfl (fun ls hl => ?_)
              exact hj816 v829 v825 _ _ _ _ _ _ (by omega) (by omega) (by omega) (by omega) hM hS hIF hIG hIR hFF hGG hRR hf746 _ (lv_sub hl [2, 0, 1, 3] rfl)
            refine lv_icmp_le (tgt := 58) hx hb dX13_loudest_50 (by decide) (fun c9 => ?_) (fun c9 => ?_)
            · have hc827 : v819.toInt ≤ v94.toInt := (fi_le rfl rfl).mp c9
              refine lv_iload_n hx hb dX13_loudest_58 rfl (lv_at hl 3 rfl) ?_
              exact hj830 v94 (by omega) (by omega) (by omega) _ (lv_sub hl [0, 2, 4] rfl)
            · have hc827 : ¬ (v819.toInt ≤ v94.toInt) := fun h9 => c9 ((fi_le rfl rfl).mpr h9)
              refine lv_iload hx hb dX13_loudest_53 (lv_at hl 1 rfl) ?_
              refine lv_goto (tgt := 59) hx hb dX13_loudest_55 (by decide) ?_
              exact hj830 v819 (by omega) (by omega) (by omega) _ (lv_sub hl [0, 2, 4] rfl)
          refine lv_icmp_le (tgt := 45) hx hb dX13_loudest_38 (by decide) (fun c9 => ?_) (fun c9 => ?_)
          · have hc823 : v819.toInt ≤ v94.toInt := (fi_le rfl rfl).mp c9
            refine lv_iload_n hx hb dX13_loudest_45 rfl (lv_at hl 3 rfl) ?_
            exact hj826 v95 (by omega) (by omega) _ (lv_sub hl [0, 1, 2, 4] rfl)
          · have hc823 : ¬ (v819.toInt ≤ v94.toInt) := fun h9 => c9 ((fi_le rfl rfl).mpr h9)
            refine lv_iload_n hx hb dX13_loudest_41 rfl (lv_at hl 1 rfl) ?_
            refine lv_goto (tgt := 46) hx hb dX13_loudest_42 (by decide) ?_
            exact hj826 v93 (by omega) (by omega) _ (lv_sub hl [0, 1, 2, 4] rfl)
  have hk_0 : (0 : Int32).toInt = 0 := by decide
  have hk_m1 : ((-1) : Int32).toInt = (-1) := by decide
  have hk_m1 : ((-1) : Int32).toInt = (-1) := by decide
  exact hl745 11 0 (-1) (-1) _ _ _ _ _ _ (by omega) (by omega) (by omega) (by omega) (by omega) hM hS hIF hIG hIR (fun _ _ => rfl) (fun _ _ => rfl) (fun _ _ => rfl) (by omega) _ (lv_sub hl [0, 1, 2, 3] rfl)
