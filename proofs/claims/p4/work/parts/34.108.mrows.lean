theorem hd_yX13_leftBy : yX13_leftBy.cls ≠ "java/lang/invoke/MethodHandle" ∧ yX13_leftBy.cls ≠ "java/lang/invoke/VarHandle" ∧ (parseMethodDescriptor yX13_leftBy.desc).map (fun d => d.parameters.length) = some 6 := by decide +kernel
theorem dX13_leftOf_0 : decode cX13_leftOf 0 = .ok (.iload_n 1, 1) := by decide +kernel
theorem dX13_leftOf_1 : decode cX13_leftOf 1 = .ok (.istore_n 3, 1) := by decide +kernel
theorem dX13_leftOf_2 : decode cX13_leftOf 2 = .ok (.iconst 0, 1) := by decide +kernel
theorem dX13_leftOf_3 : decode cX13_leftOf 3 = .ok (.istore 4, 2) := by decide +kernel
theorem dX13_leftOf_5 : decode cX13_leftOf 5 = .ok (.iload 4, 2) := by decide +kernel
theorem dX13_leftOf_7 : decode cX13_leftOf 7 = .ok (.aload_n 0, 1) := by decide +kernel
theorem dX13_leftOf_8 : decode cX13_leftOf 8 = .ok (.getfield 13, 3) := by decide +kernel
theorem dX13_leftOf_11 : decode cX13_leftOf 11 = .ok (.iconst 3, 1) := by decide +kernel
theorem dX13_leftOf_12 : decode cX13_leftOf 12 = .ok (.iaload, 1) := by decide +kernel
theorem dX13_leftOf_13 : decode cX13_leftOf 13 = .ok (.if_icmp .ge 97, 3) := by decide +kernel
theorem dX13_leftOf_110 : decode cX13_leftOf 110 = .ok (.iload_n 3, 1) := by decide +kernel
theorem dX13_leftOf_111 : decode cX13_leftOf 111 = .ok (.ireturn, 1) := by decide +kernel
theorem dX13_leftOf_16 : decode cX13_leftOf 16 = .ok (.bipush 116, 2) := by decide +kernel
theorem dX13_leftOf_18 : decode cX13_leftOf 18 = .ok (.iconst 5, 1) := by decide +kernel
theorem dX13_leftOf_19 : decode cX13_leftOf 19 = .ok (.iload 4, 2) := by decide +kernel
theorem dX13_leftOf_21 : decode cX13_leftOf 21 = .ok (.imul, 1) := by decide +kernel
theorem dX13_leftOf_22 : decode cX13_leftOf 22 = .ok (.iadd, 1) := by decide +kernel
theorem dX13_leftOf_23 : decode cX13_leftOf 23 = .ok (.istore 5, 2) := by decide +kernel
theorem dX13_leftOf_25 : decode cX13_leftOf 25 = .ok (.iload_n 3, 1) := by decide +kernel
theorem dX13_leftOf_26 : decode cX13_leftOf 26 = .ok (.ifCond .ne 5, 3) := by decide +kernel
theorem dX13_leftOf_31 : decode cX13_leftOf 31 = .ok (.aload_n 0, 1) := by decide +kernel
theorem dX13_leftOf_32 : decode cX13_leftOf 32 = .ok (.aload_n 0, 1) := by decide +kernel
theorem dX13_leftOf_33 : decode cX13_leftOf 33 = .ok (.getfield 13, 3) := by decide +kernel
theorem dX13_leftOf_36 : decode cX13_leftOf 36 = .ok (.iload 5, 2) := by decide +kernel
theorem dX13_leftOf_38 : decode cX13_leftOf 38 = .ok (.iaload, 1) := by decide +kernel
theorem dX13_leftOf_39 : decode cX13_leftOf 39 = .ok (.aload_n 0, 1) := by decide +kernel
theorem dX13_leftOf_40 : decode cX13_leftOf 40 = .ok (.getfield 13, 3) := by decide +kernel
theorem dX13_leftOf_43 : decode cX13_leftOf 43 = .ok (.iload 5, 2) := by decide +kernel
theorem dX13_leftOf_45 : decode cX13_leftOf 45 = .ok (.iconst 1, 1) := by decide +kernel
theorem dX13_leftOf_46 : decode cX13_leftOf 46 = .ok (.iadd, 1) := by decide +kernel
theorem dX13_leftOf_47 : decode cX13_leftOf 47 = .ok (.iaload, 1) := by decide +kernel
theorem dX13_leftOf_48 : decode cX13_leftOf 48 = .ok (.aload_n 0, 1) := by decide +kernel
theorem dX13_leftOf_49 : decode cX13_leftOf 49 = .ok (.getfield 13, 3) := by decide +kernel
theorem dX13_leftOf_52 : decode cX13_leftOf 52 = .ok (.iload 5, 2) := by decide +kernel
theorem dX13_leftOf_54 : decode cX13_leftOf 54 = .ok (.iconst 3, 1) := by decide +kernel
theorem dX13_leftOf_55 : decode cX13_leftOf 55 = .ok (.iadd, 1) := by decide +kernel
theorem dX13_leftOf_56 : decode cX13_leftOf 56 = .ok (.iaload, 1) := by decide +kernel
theorem dX13_leftOf_57 : decode cX13_leftOf 57 = .ok (.aload_n 0, 1) := by decide +kernel
theorem dX13_leftOf_58 : decode cX13_leftOf 58 = .ok (.getfield 13, 3) := by decide +kernel
theorem dX13_leftOf_61 : decode cX13_leftOf 61 = .ok (.iload 5, 2) := by decide +kernel
theorem dX13_leftOf_63 : decode cX13_leftOf 63 = .ok (.iconst 2, 1) := by decide +kernel
theorem dX13_leftOf_64 : decode cX13_leftOf 64 = .ok (.iadd, 1) := by decide +kernel
theorem dX13_leftOf_65 : decode cX13_leftOf 65 = .ok (.iaload, 1) := by decide +kernel
theorem dX13_leftOf_66 : decode cX13_leftOf 66 = .ok (.iload_n 3, 1) := by decide +kernel
theorem dX13_leftOf_67 : decode cX13_leftOf 67 = .ok (.iload_n 2, 1) := by decide +kernel
theorem dX13_leftOf_68 : decode cX13_leftOf 68 = .ok (.invokevirtual 570, 3) := by decide +kernel
theorem dX13_leftOf_71 : decode cX13_leftOf 71 = .ok (.istore_n 3, 1) := by decide +kernel
theorem dX13_leftOf_72 : decode cX13_leftOf 72 = .ok (.iload_n 3, 1) := by decide +kernel
theorem dX13_leftOf_81 : decode cX13_leftOf 81 = .ok (.aload_n 0, 1) := by decide +kernel
theorem dX13_leftOf_82 : decode cX13_leftOf 82 = .ok (.getfield 13, 3) := by decide +kernel
theorem dX13_leftOf_85 : decode cX13_leftOf 85 = .ok (.iload 5, 2) := by decide +kernel
theorem dX13_leftOf_87 : decode cX13_leftOf 87 = .ok (.iconst 4, 1) := by decide +kernel
theorem dX13_leftOf_88 : decode cX13_leftOf 88 = .ok (.iadd, 1) := by decide +kernel
theorem dX13_leftOf_89 : decode cX13_leftOf 89 = .ok (.iaload, 1) := by decide +kernel
theorem dX13_leftOf_90 : decode cX13_leftOf 90 = .ok (.iconst 1, 1) := by decide +kernel
theorem dX13_leftOf_99 : decode cX13_leftOf 99 = .ok (.if_icmp .eq 5, 3) := by decide +kernel
theorem dX13_leftOf_104 : decode cX13_leftOf 104 = .ok (.iinc 4 1, 3) := by decide +kernel
theorem dX13_leftOf_107 : decode cX13_leftOf 107 = .ok (.goto (-102), 3) := by decide +kernel
theorem dX13_leftOf_102 : decode cX13_leftOf 102 = .ok (.iconst (-1), 1) := by decide +kernel
theorem dX13_leftOf_103 : decode cX13_leftOf 103 = .ok (.ireturn, 1) := by decide +kernel
theorem dX13_leftOf_91 : decode cX13_leftOf 91 = .ok (.if_icmp .ne 7, 3) := by decide +kernel
theorem dX13_leftOf_98 : decode cX13_leftOf 98 = .ok (.iconst 0, 1) := by decide +kernel
theorem dX13_leftOf_94 : decode cX13_leftOf 94 = .ok (.iconst 1, 1) := by decide +kernel
theorem dX13_leftOf_95 : decode cX13_leftOf 95 = .ok (.goto 4, 3) := by decide +kernel
theorem dX13_leftOf_73 : decode cX13_leftOf 73 = .ok (.ifCond .ne 7, 3) := by decide +kernel
theorem dX13_leftOf_80 : decode cX13_leftOf 80 = .ok (.iconst 0, 1) := by decide +kernel
theorem dX13_leftOf_76 : decode cX13_leftOf 76 = .ok (.iconst 1, 1) := by decide +kernel
theorem dX13_leftOf_77 : decode cX13_leftOf 77 = .ok (.goto 4, 3) := by decide +kernel
theorem dX13_leftOf_29 : decode cX13_leftOf 29 = .ok (.iconst (-1), 1) := by decide +kernel
theorem dX13_leftOf_30 : decode cX13_leftOf 30 = .ok (.ireturn, 1) := by decide +kernel
set_option maxHeartbeats 4000000 in
set_option maxRecDepth 100000 in
theorem k_X13_leftOf (l : Launch) (D : va_G) (cy : Nat → ClassId) (ld ad : Nat → Nat) (am : Nat) (hD : mz_D ad am) (Fa : Nat → Int32) (Ga : Nat → Int64) (Ra : Nat → Nat → Int32) (Sa : Nat → Nat → Int64) (p1 : Int32) (p2 : Int32) (hIF : mz_IF true Fa) (hIG : mz_IG Ga) (hIR : mz_IR [] true Ra) : Met l yX13_leftOf (wl yX13_leftOf cX13_leftOf 6 (some .int)) ({ frames := 10, cells := 0, slots := 0, locals := 630 }) (mz_p D cy ld ad am Fa Ga Ra Sa [.ref am, .int p1, .int p2]) (mz_i D cy ad am (fun r F G R S => mz_IF true F ∧ mz_IG G ∧ mz_IR [] true R ∧ (∀ k : Nat, k ∉ ([34, 38] : List Nat) → F k = Fa k) ∧ (∀ k : Nat, k ∉ ([] : List Nat) → R k = Ra k) ∧ (∀ k : Nat, k ∉ ([39, 40] : List Nat) → G k = Ga k))) 0 0 (mz_W ad am) := by
  refine mz_met (y := yX13_leftOf) (cc := cX13_leftOf) (maxL := 6) (ret := (some .int)) (av := [.ref am, .int p1, .int p2]) _ (by decide) (Nat.le_of_ble_eq_true rfl) ?_
  intro p e s m args below meth c hx hb hr hml hts htl hown hlocks hK H locs hM hS ls hl
  have hown : s.vm.findClass RX13 = some m.cls := hown
  have hl : lv_has ls 6 [(0, .ref am), (1, .int p1), (2, .int p2)] := hl
  have hr_p1 := tk_rng p1
  have hr_p2 := tk_rng p2
  refine lv_iload_n hx hb dX13_leftOf_0 rfl (lv_at hl 1 rfl) ?_
  refine lv_istore_n (lv' := [(3, .int p1), (0, .ref am), (1, .int p1), (2, .int p2)]) hx hb dX13_leftOf_1 rfl hl (by decide) rfl (fun ls hl => ?_)
  refine lv_iconst (v := 0) hx hb dX13_leftOf_2 (by decide) ?_
  refine lv_istore (lv' := [(4, .int 0), (3, .int p1), (0, .ref am), (1, .int p1), (2, .int p2)]) hx hb dX13_leftOf_3 hl (by decide) rfl (fun ls hl => ?_)
  have hl242 : ∀ (N_l242 : Nat) (v36 : Int32) (v37 : Int32) (H : Heap) (locs : List Loc) (F : Nat → Int32) (G : Nat → Int64) (R : Nat → Nat → Int32) (S : Nat → Nat → Int64), (v36.toInt ≤ 8) → (0 ≤ v36.toInt) → (mz_S D cy ad am F G R S H) → (va_S (mz_W ad am) s.heap H locs) → (mz_IF true F) → (mz_IG G) → (mz_IR [] true R) → (∀ k : Nat, k ∉ ([34, 38] : List Nat) → F k = Fa k) → (∀ k : Nat, k ∉ ([39, 40] : List Nat) → G k = Ga k) → (∀ k : Nat, k ∉ ([] : List Nat) → R k = Ra k) → ((-1) * v36.toInt + 8 < (N_l242 : Int)) → ∀ ls : Array Slot, lv_has ls 6 [(4, .int v36), (3, .int v37), (0, .ref am), (2, .int p2)] → W p l e ({ frames := 10, cells := 0, slots := 0, locals := 630 }) s m args below meth c H locs 0 0 (MQ below (mz_i D cy ad am (fun r F G R S => mz_IF true F ∧ mz_IG G ∧ mz_IR [] true R ∧ (∀ k : Nat, k ∉ ([34, 38] : List Nat) → F k = Fa k) ∧ (∀ k : Nat, k ∉ ([] : List Nat) → R k = Ra k) ∧ (∀ k : Nat, k ∉ ([39, 40] : List Nat) → G k = Ga k))) args s 0 0 (mz_W ad am)) (F0 m 5 ls []) := by
    intro N_l242
    induction N_l242 with
    | zero => intro v36 v37 H locs F G R S hq0_l242 hq1_l242 hM hS hIF hIG hIR hFF hGG hRR hm_l242 ls hl; exfalso; omega
    | succ N_l242 ih_l242 =>
      intro v36 v37 H locs F G R S hq0_l242 hq1_l242 hM hS hIF hIG hIR hFF hGG hRR hm_l242 ls hl
      refine lv_iload hx hb dX13_leftOf_5 (lv_at hl 0 rfl) ?_
      refine lv_aload_n hx hb dX13_leftOf_7 rfl (lv_at hl 2 rfl) ?_
      refine mz_getR hx hb htl hown hK hM 3 (Nat.le_of_ble_eq_true rfl) (Nat.le_of_ble_eq_true rfl) (htl _ mw_188) (fun _ h9 => h9) dX13_leftOf_8 ?_
      refine lv_iconst (v := 3) hx hb dX13_leftOf_11 (by decide) ?_
      refine mz_iald hx hb hK hM 3 (Nat.le_of_ble_eq_true rfl) rfl (nn := 5560) rfl (I := 3) (by decide) (by decide) (by decide) dX13_leftOf_12 (fun v244 hf243 => ?_)
      have hf243 : R 3 3 = v244 := hf243
      have hq_v244 := tk_rng v244
      have hr_v244 : 0 ≤ v244.toInt ∧ v244.toInt ≤ 8 := by have h9 := mz_r3c 3 (hIR.at 3) hf243 (by decide); unfold mE at h9; omega
      refine lv_icmp_ge (tgt := 110) hx hb dX13_leftOf_13 (by decide) (fun c9 => ?_) (fun c9 => ?_)
      · have hc245 : v244.toInt ≤ v36.toInt := (fi_le rfl rfl).mp c9
        refine lv_iload_n hx hb dX13_leftOf_110 rfl (lv_at hl 1 rfl) ?_
        exact mz_iret (v := v37) hx hb hr rfl hlocks ⟨hIF, hIG, hIR, hFF, hRR, hGG⟩ hM hS dX13_leftOf_111
      · have hc245 : ¬ (v244.toInt ≤ v36.toInt) := fun h9 => c9 ((fi_le rfl rfl).mpr h9)
        refine lv_bipush (v := 116) hx hb dX13_leftOf_16 (by decide) ?_
        refine lv_iconst (v := 5) hx hb dX13_leftOf_18 (by decide) ?_
        refine lv_iload hx hb dX13_leftOf_19 (lv_at hl 0 rfl) ?_
        refine lv_imul hx hb dX13_leftOf_21 ?_
        refine tk_mul (show (5 : Int32).toInt = 5 by decide) rfl (by omega) (by omega) (fun v246 h_v246 => ?_)
        refine lv_iadd hx hb dX13_leftOf_22 ?_
        refine tk_add (show (116 : Int32).toInt = 116 by decide) rfl (by omega) (by omega) (fun v247 h_v247 => ?_)
        refine lv_istore (lv' := [(5, .int v247), (4, .int v36), (3, .int v37), (0, .ref am), (2, .int p2)]) hx hb dX13_leftOf_23 hl (by decide) rfl (fun ls hl => ?_)
        refine lv_iload_n hx hb dX13_leftOf_25 rfl (lv_at hl 2 rfl) ?_
        refine lv_if_ne (tgt := 31) hx hb dX13_leftOf_26 (by decide) (fun c9 => ?_) (fun c9 => ?_)
        · have hc248 : ¬ (v37.toInt = 0) := fun h9 => c9 ((fi_eq rfl (show (0 : Int32).toInt = 0 by decide)).mpr h9)
          refine lv_aload_n hx hb dX13_leftOf_31 rfl (lv_at hl 3 rfl) ?_
          refine lv_aload_n hx hb dX13_leftOf_32 rfl (lv_at hl 3 rfl) ?_
          refine mz_getR hx hb htl hown hK hM 3 (Nat.le_of_ble_eq_true rfl) (Nat.le_of_ble_eq_true rfl) (htl _ mw_188) (fun _ h9 => h9) dX13_leftOf_33 ?_
          refine lv_iload hx hb dX13_leftOf_36 (lv_at hl 0 rfl) ?_
          refine mz_iald hx hb hK hM 3 (Nat.le_of_ble_eq_true rfl) rfl (nn := 5560) rfl rfl (by omega) (by omega) dX13_leftOf_38 (fun v249 e_v249 => ?_)
          have hq_v249 := tk_rng v249
          have he_v249 : 0 ≤ v249.toInt ∧ v249.toInt ≤ 9 := by have h9 := mz_r3g (hIR.at 3) e_v249 rfl (by omega) (by omega); unfold mE at h9; omega
          refine lv_aload_n hx hb dX13_leftOf_39 rfl (lv_at hl 3 rfl) ?_
          refine mz_getR hx hb htl hown hK hM 3 (Nat.le_of_ble_eq_true rfl) (Nat.le_of_ble_eq_true rfl) (htl _ mw_188) (fun _ h9 => h9) dX13_leftOf_40 ?_
          refine lv_iload hx hb dX13_leftOf_43 (lv_at hl 0 rfl) ?_
          refine lv_iconst (v := 1) hx hb dX13_leftOf_45 (by decide) ?_
          refine lv_iadd hx hb dX13_leftOf_46 ?_
          refine tk_add rfl (show (1 : Int32).toInt = 1 by decide) (by omega) (by omega) (fun v250 h_v250 => ?_)
          refine mz_iald hx hb hK hM 3 (Nat.le_of_ble_eq_true rfl) rfl (nn := 5560) rfl rfl (by omega) (by omega) dX13_leftOf_47 (fun v251 e_v251 => ?_)
          have hq_v251 := tk_rng v251
          have he_v251 : 0 ≤ v251.toInt ∧ v251.toInt ≤ 7 := by have h9 := mz_r3g (hIR.at 3) e_v251 rfl (by omega) (by omega); unfold mE at h9; omega
          refine lv_aload_n hx hb dX13_leftOf_48 rfl (lv_at hl 3 rfl) ?_
          refine mz_getR hx hb htl hown hK hM 3 (Nat.le_of_ble_eq_true rfl) (Nat.le_of_ble_eq_true rfl) (htl _ mw_188) (fun _ h9 => h9) dX13_leftOf_49 ?_
          refine lv_iload hx hb dX13_leftOf_52 (lv_at hl 0 rfl) ?_
          refine lv_iconst (v := 3) hx hb dX13_leftOf_54 (by decide) ?_
          refine lv_iadd hx hb dX13_leftOf_55 ?_
          refine tk_add rfl (show (3 : Int32).toInt = 3 by decide) (by omega) (by omega) (fun v252 h_v252 => ?_)
          refine mz_iald hx hb hK hM 3 (Nat.le_of_ble_eq_true rfl) rfl (nn := 5560) rfl rfl (by omega) (by omega) dX13_leftOf_56 (fun v253 e_v253 => ?_)
          have hq_v253 := tk_rng v253
          refine lv_aload_n hx hb dX13_leftOf_57 rfl (lv_at hl 3 rfl) ?_
          refine mz_getR hx hb htl hown hK hM 3 (Nat.le_of_ble_eq_true rfl) (Nat.le_of_ble_eq_true rfl) (htl _ mw_188) (fun _ h9 => h9) dX13_leftOf_58 ?_
          refine lv_iload hx hb dX13_leftOf_61 (lv_at hl 0 rfl) ?_
          refine lv_iconst (v := 2) hx hb dX13_leftOf_63 (by decide) ?_
          refine lv_iadd hx hb dX13_leftOf_64 ?_
          refine tk_add rfl (show (2 : Int32).toInt = 2 by decide) (by omega) (by omega) (fun v254 h_v254 => ?_)
          refine mz_iald hx hb hK hM 3 (Nat.le_of_ble_eq_true rfl) rfl (nn := 5560) rfl rfl (by omega) (by omega) dX13_leftOf_65 (fun v255 e_v255 => ?_)
          have hq_v255 := tk_rng v255
          refine lv_iload_n hx hb dX13_leftOf_66 rfl (lv_at hl 2 rfl) ?_
          refine lv_iload_n hx hb dX13_leftOf_67 rfl (lv_at hl 4 rfl) ?_
          refine mz_Vi (As := [.int v249, .int v251, .int v253, .int v255, .int v37, .int p2]) (rest := []) ⟨hx, hb, hml, hown, hts⟩ hK hM hS (k_X13_leftBy l D cy ld ad am hD _ _ _ _ v249 v251 v253 v255 v37 p2 hIF hIG hIR (by omega) (by omega) (by omega) (by omega)) ⟨callB_of 6 hts (wl_in mw_1565) rfl rfl rfl (htl _ mw_5) (htl _ mw_1562) hd_yX13_leftBy ⟨(Nat.le_of_ble_eq_true rfl), (Nat.le_of_ble_eq_true rfl)⟩, htl _ mw_1563, htl _ mw_1564⟩ rfl hl.1 rfl (Nat.le_of_ble_eq_true rfl) dX13_leftOf_68 ⟨(Nat.le_of_ble_eq_true rfl), (Nat.le_of_ble_eq_true rfl)⟩ (fun v256 H locs F G R S hpo hM hS => ?_)
          obtain ⟨hIF, hIG, hIR, hfr9, hrr9, hgr9, hpo257, hpo258⟩ := hpo
          have hq_v256 := tk_rng v256
          have hFF := mz_fr (K := [34, 38]) (Fa := Fa) hfr9 hFF (by decide)
          have hRR := mz_fr (K := []) (Fa := Ra) hrr9 hRR (by decide)
          have hGG := mz_fr (K := [39, 40]) (Fa := Ga) hgr9 hGG (by decide)
          have e_v249 : R 3 (v247 : Int32).toNatClampNeg = _ := (congrFun (hrr9 3 (by decide)) _).trans e_v249
          have e_v251 : R 3 (v250 : Int32).toNatClampNeg = _ := (congrFun (hrr9 3 (by decide)) _).trans e_v251
          have e_v253 : R 3 (v252 : Int32).toNatClampNeg = _ := (congrFun (hrr9 3 (by decide)) _).trans e_v253
          have e_v255 : R 3 (v254 : Int32).toNatClampNeg = _ := (congrFun (hrr9 3 (by decide)) _).trans e_v255
          have hf243 : R 3 3 = _ := (congrFun (hrr9 3 (by decide)) 3).trans hf243
          refine lv_istore_n (lv' := [(3, .int v256), (5, .int v247), (4, .int v36), (0, .ref am), (2, .int p2)]) hx hb dX13_leftOf_71 rfl hl (by decide) rfl (fun ls hl => ?_)
          refine lv_iload_n hx hb dX13_leftOf_72 rfl (lv_at hl 0 rfl) ?_
          have hj263 : ∀ (v262 : Int32), (0 ≤ v262.toInt) → (v262.toInt ≤ 1) → ∀ ls : Array Slot, lv_has ls 6 [(3, .int v256), (5, .int v247), (4, .int v36), (0, .ref am), (2, .int p2)] → W p l e ({ frames := 10, cells := 0, slots := 0, locals := 630 }) s m args below meth c H locs 0 0 (MQ below (mz_i D cy ad am (fun r F G R S => mz_IF true F ∧ mz_IG G ∧ mz_IR [] true R ∧ (∀ k : Nat, k ∉ ([34, 38] : List Nat) → F k = Fa k) ∧ (∀ k : Nat, k ∉ ([] : List Nat) → R k = Ra k) ∧ (∀ k : Nat, k ∉ ([39, 40] : List Nat) → G k = Ga k))) args s 0 0 (mz_W ad am)) (F0 m 81 ls [.int v262]) := by
            intro v262 hq0_j263 hq1_j263 ls hl
            refine lv_aload_n hx hb dX13_leftOf_81 rfl (lv_at hl 3 rfl) ?_
            refine mz_getR hx hb htl hown hK hM 3 (Nat.le_of_ble_eq_true rfl) (Nat.le_of_ble_eq_true rfl) (htl _ mw_188) (fun _ h9 => h9) dX13_leftOf_82 ?_
            refine lv_iload hx hb dX13_leftOf_85 (lv_at hl 1 rfl) ?_
            refine lv_iconst (v := 4) hx hb dX13_leftOf_87 (by decide) ?_
            refine lv_iadd hx hb dX13_leftOf_88 ?_
            refine tk_add rfl (show (4 : Int32).toInt = 4 by decide) (by omega) (by omega) (fun v264 h_v264 => ?_)
            refine mz_iald hx hb hK hM 3 (Nat.le_of_ble_eq_true rfl) rfl (nn := 5560) rfl rfl (by omega) (by omega) dX13_leftOf_89 (fun v265 e_v265 => ?_)
            have hq_v265 := tk_rng v265
            refine lv_iconst (v := 1) hx hb dX13_leftOf_90 (by decide) ?_
            have hj269 : ∀ (v268 : Int32), (0 ≤ v268.toInt) → (v268.toInt ≤ 1) → ∀ ls : Array Slot, lv_has ls 6 [(3, .int v256), (4, .int v36), (0, .ref am), (2, .int p2)] → W p l e ({ frames := 10, cells := 0, slots := 0, locals := 630 }) s m args below meth c H locs 0 0 (MQ below (mz_i D cy ad am (fun r F G R S => mz_IF true F ∧ mz_IG G ∧ mz_IR [] true R ∧ (∀ k : Nat, k ∉ ([34, 38] : List Nat) → F k = Fa k) ∧ (∀ k : Nat, k ∉ ([] : List Nat) → R k = Ra k) ∧ (∀ k : Nat, k ∉ ([39, 40] : List Nat) → G k = Ga k))) args s 0 0 (mz_W ad am)) (F0 m 99 ls [.int v268, .int v262]) := by
              intro v268 hq0_j269 hq1_j269 ls hl
              refine lv_icmp_eq (tgt := 104) hx hb dX13_leftOf_99 (by decide) (fun c9 => ?_) (fun c9 => ?_)
              · have hc270 : v262.toInt = v268.toInt := (fi_eq rfl rfl).mp c9
                obtain ⟨v271, h_v271, e_v271⟩ := tk_inc v36 1 (by decide) (by omega) (by omega)
                refine lv_iinc (v := v271) (lv' := [(4, .int v271), (3, .int v256), (0, .ref am), (2, .int p2)]) hx hb dX13_leftOf_104 hl (k := 1) rfl e_v271 (by decide) rfl (fun ls hl => ?_)
                refine lv_goto (tgt := 5) hx hb dX13_leftOf_107 (by decide) ?_
                exact ih_l242 v271 v256 _ _ _ _ _ _ (by omega) (by omega) hM hS hIF hIG hIR hFF hGG hRR (by omega) _ (lv_sub hl [0, 1, 2, 3] rfl)
              · have hc270 : ¬ (v262.toInt = v268.toInt) := fun h9 => c9 ((fi_eq rfl rfl).mpr h9)
                refine lv_iconst (v := (-1)) hx hb dX13_leftOf_102 (by decide) ?_
                have hk_m1 : ((-1) : Int32).toInt = (-1) := by decide
                exact mz_iret (v := (-1)) hx hb hr rfl hlocks ⟨hIF, hIG, hIR, hFF, hRR, hGG⟩ hM hS dX13_leftOf_103
            refine lv_icmp_ne (tgt := 98) hx hb dX13_leftOf_91 (by decide) (fun c9 => ?_) (fun c9 => ?_)
            · have hc266 : ¬ (v265.toInt = 1) := fun h9 => c9 ((fi_eq rfl (show (1 : Int32).toInt = 1 by decide)).mpr h9)
              refine lv_iconst (v := 0) hx hb dX13_leftOf_98 (by decide) ?_
              have hk_0 : (0 : Int32).toInt = 0 := by decide
              exact hj269 0 (by omega) (by omega) _ (lv_sub hl [0, 2, 3, 4] rfl)
            · have hc266 : v265.toInt = 1 := (fi_eq rfl (show (1 : Int32).toInt = 1 by decide)).mp c9
              refine lv_iconst (v := 1) hx hb dX13_leftOf_94 (by decide) ?_
              refine lv_goto (tgt := 99) hx hb dX13_leftOf_95 (by decide) ?_
              have hk_1 : (1 : Int32).toInt = 1 := by decide
              exact hj269 1 (by omega) (by omega) _ (lv_sub hl [0, 2, 3, 4] rfl)
          refine lv_if_ne (tgt := 80) hx hb dX13_leftOf_73 (by decide) (fun c9 => ?_) (fun c9 => ?_)
          · have hc260 : ¬ (v256.toInt = 0) := fun h9 => c9 ((fi_eq rfl (show (0 : Int32).toInt = 0 by decide)).mpr h9)
            refine lv_iconst (v := 0) hx hb dX13_leftOf_80 (by decide) ?_
            have hk_0 : (0 : Int32).toInt = 0 := by decide
            exact hj263 0 (by omega) (by omega) _ (lv_sub hl [0, 1, 2, 3, 4] rfl)
          · have hc260 : v256.toInt = 0 := (fi_eq rfl (show (0 : Int32).toInt = 0 by decide)).mp c9
            refine lv_iconst (v := 1) hx hb dX13_leftOf_76 (by decide) ?_
            refine lv_goto (tgt := 81) hx hb dX13_leftOf_77 (by decide) ?_
            have hk_1 : (1 : Int32).toInt = 1 := by decide
            exact hj263 1 (by omega) (by omega) _ (lv_sub hl [0, 1, 2, 3, 4] rfl)
        · have hc248 : v37.toInt = 0 := (fi_eq rfl (show (0 : Int32).toInt = 0 by decide)).mp c9
          refine lv_iconst (v := (-1)) hx hb dX13_leftOf_29 (by decide) ?_
          have hk_m1 : ((-1) : Int32).toInt = (-1) := by decide
          exact mz_iret (v := (-1)) hx hb hr rfl hlocks ⟨hIF, hIG, hIR, hFF, hRR, hGG⟩ hM hS dX13_leftOf_30
  have hk_0 : (0 : Int32).toInt = 0 := by decide
  exact hl242 9 0 p1 _ _ _ _ _ _ (by omega) (by omega) hM hS hIF hIG hIR (fun _ _ => rfl) (fun _ _ => rfl) (fun _ _ => rfl) (by omega) _ (lv_sub hl [0, 1, 2, 4] rfl)
