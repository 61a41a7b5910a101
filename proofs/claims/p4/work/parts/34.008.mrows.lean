section
theorem hd_yX13_keepAll : yX13_keepAll.cls ≠ "java/lang/invoke/MethodHandle" ∧ yX13_keepAll.cls ≠ "java/lang/invoke/VarHandle" ∧ (parseMethodDescriptor yX13_keepAll.desc).map (fun d => d.parameters.length) = some 1 := by decide +kernel
theorem dX13_remember_0 : decode cX13_remember 0 = .ok (.aload_n 0, 1) := by decide +kernel
theorem dX13_remember_1 : decode cX13_remember 1 = .ok (.getfield 176, 3) := by decide +kernel
theorem dX13_remember_4 : decode cX13_remember 4 = .ok (.bipush 16, 2) := by decide +kernel
theorem dX13_remember_77 : decode cX13_remember 77 = .ok (.aload_n 0, 1) := by decide +kernel
theorem dX13_remember_78 : decode cX13_remember 78 = .ok (.aload_n 0, 1) := by decide +kernel
theorem dX13_remember_79 : decode cX13_remember 79 = .ok (.getfield 176, 3) := by decide +kernel
theorem dX13_remember_82 : decode cX13_remember 82 = .ok (.invokevirtual 179, 3) := by decide +kernel
theorem dX13_remember_85 : decode cX13_remember 85 = .ok (.aload_n 0, 1) := by decide +kernel
theorem dX13_remember_86 : decode cX13_remember 86 = .ok (.getfield 26, 3) := by decide +kernel
theorem dX13_remember_89 : decode cX13_remember 89 = .ok (.aload_n 0, 1) := by decide +kernel
theorem dX13_remember_90 : decode cX13_remember 90 = .ok (.getfield 176, 3) := by decide +kernel
theorem dX13_remember_93 : decode cX13_remember 93 = .ok (.iload_n 1, 1) := by decide +kernel
theorem dX13_remember_94 : decode cX13_remember 94 = .ok (.iastore, 1) := by decide +kernel
theorem dX13_remember_95 : decode cX13_remember 95 = .ok (.aload_n 0, 1) := by decide +kernel
theorem dX13_remember_96 : decode cX13_remember 96 = .ok (.dup, 1) := by decide +kernel
theorem dX13_remember_97 : decode cX13_remember 97 = .ok (.getfield 176, 3) := by decide +kernel
theorem dX13_remember_100 : decode cX13_remember 100 = .ok (.iconst 1, 1) := by decide +kernel
theorem dX13_remember_101 : decode cX13_remember 101 = .ok (.iadd, 1) := by decide +kernel
theorem dX13_remember_102 : decode cX13_remember 102 = .ok (.putfield 176, 3) := by decide +kernel
theorem dX13_remember_105 : decode cX13_remember 105 = .ok (.return_, 1) := by decide +kernel
theorem dX13_remember_6 : decode cX13_remember 6 = .ok (.if_icmp .ne 71, 3) := by decide +kernel
theorem dX13_remember_9 : decode cX13_remember 9 = .ok (.iconst 0, 1) := by decide +kernel
theorem dX13_remember_10 : decode cX13_remember 10 = .ok (.istore_n 2, 1) := by decide +kernel
theorem dX13_remember_11 : decode cX13_remember 11 = .ok (.iload_n 2, 1) := by decide +kernel
theorem dX13_remember_12 : decode cX13_remember 12 = .ok (.sipush 780, 3) := by decide +kernel
theorem dX13_remember_15 : decode cX13_remember 15 = .ok (.if_icmp .ge 24, 3) := by decide +kernel
theorem dX13_remember_39 : decode cX13_remember 39 = .ok (.iconst 0, 1) := by decide +kernel
theorem dX13_remember_40 : decode cX13_remember 40 = .ok (.istore_n 2, 1) := by decide +kernel
theorem dX13_remember_41 : decode cX13_remember 41 = .ok (.iload_n 2, 1) := by decide +kernel
theorem dX13_remember_42 : decode cX13_remember 42 = .ok (.bipush 15, 2) := by decide +kernel
theorem dX13_remember_44 : decode cX13_remember 44 = .ok (.if_icmp .ge 23, 3) := by decide +kernel
theorem dX13_remember_67 : decode cX13_remember 67 = .ok (.aload_n 0, 1) := by decide +kernel
theorem dX13_remember_68 : decode cX13_remember 68 = .ok (.dup, 1) := by decide +kernel
theorem dX13_remember_69 : decode cX13_remember 69 = .ok (.getfield 176, 3) := by decide +kernel
theorem dX13_remember_72 : decode cX13_remember 72 = .ok (.iconst 1, 1) := by decide +kernel
theorem dX13_remember_73 : decode cX13_remember 73 = .ok (.isub, 1) := by decide +kernel
theorem dX13_remember_74 : decode cX13_remember 74 = .ok (.putfield 176, 3) := by decide +kernel
theorem dX13_remember_47 : decode cX13_remember 47 = .ok (.aload_n 0, 1) := by decide +kernel
theorem dX13_remember_48 : decode cX13_remember 48 = .ok (.getfield 26, 3) := by decide +kernel
theorem dX13_remember_51 : decode cX13_remember 51 = .ok (.iload_n 2, 1) := by decide +kernel
theorem dX13_remember_52 : decode cX13_remember 52 = .ok (.aload_n 0, 1) := by decide +kernel
theorem dX13_remember_53 : decode cX13_remember 53 = .ok (.getfield 26, 3) := by decide +kernel
theorem dX13_remember_56 : decode cX13_remember 56 = .ok (.iload_n 2, 1) := by decide +kernel
theorem dX13_remember_57 : decode cX13_remember 57 = .ok (.iconst 1, 1) := by decide +kernel
theorem dX13_remember_58 : decode cX13_remember 58 = .ok (.iadd, 1) := by decide +kernel
theorem dX13_remember_59 : decode cX13_remember 59 = .ok (.iaload, 1) := by decide +kernel
theorem dX13_remember_60 : decode cX13_remember 60 = .ok (.iastore, 1) := by decide +kernel
theorem dX13_remember_61 : decode cX13_remember 61 = .ok (.iinc 2 1, 3) := by decide +kernel
theorem dX13_remember_64 : decode cX13_remember 64 = .ok (.goto (-23), 3) := by decide +kernel
theorem dX13_remember_18 : decode cX13_remember 18 = .ok (.aload_n 0, 1) := by decide +kernel
theorem dX13_remember_19 : decode cX13_remember 19 = .ok (.getfield 23, 3) := by decide +kernel
theorem dX13_remember_22 : decode cX13_remember 22 = .ok (.iload_n 2, 1) := by decide +kernel
theorem dX13_remember_23 : decode cX13_remember 23 = .ok (.aload_n 0, 1) := by decide +kernel
theorem dX13_remember_24 : decode cX13_remember 24 = .ok (.getfield 23, 3) := by decide +kernel
theorem dX13_remember_27 : decode cX13_remember 27 = .ok (.iload_n 2, 1) := by decide +kernel
theorem dX13_remember_28 : decode cX13_remember 28 = .ok (.bipush 52, 2) := by decide +kernel
theorem dX13_remember_30 : decode cX13_remember 30 = .ok (.iadd, 1) := by decide +kernel
theorem dX13_remember_31 : decode cX13_remember 31 = .ok (.iaload, 1) := by decide +kernel
theorem dX13_remember_32 : decode cX13_remember 32 = .ok (.iastore, 1) := by decide +kernel
theorem dX13_remember_33 : decode cX13_remember 33 = .ok (.iinc 2 1, 3) := by decide +kernel
theorem dX13_remember_36 : decode cX13_remember 36 = .ok (.goto (-25), 3) := by decide +kernel
set_option maxHeartbeats 4000000 in
set_option maxRecDepth 100000 in
theorem k_X13_remember (l : Launch) (D : va_G) (cy : Nat → ClassId) (ld ad : Nat → Nat) (am : Nat) (hD : mz_D ad am) (Fa : Nat → Int32) (Ga : Nat → Int64) (Ra : Nat → Nat → Int32) (Sa : Nat → Nat → Int64) (p1 : Int32) (hIF : mz_IF true Fa) (hIG : mz_IG Ga) (hIR : mz_IR [] true Ra) (hp_0 : 0 ≤ p1.toInt) (hp_1 : p1.toInt ≤ 3) : Met l yX13_remember (wl yX13_remember cX13_remember 3 none) ({ frames := 4, cells := 0, slots := 0, locals := 210 }) (mz_p D cy ld ad am Fa Ga Ra Sa [.ref am, .int p1]) (mz_w D cy ad am (fun F G R S => mz_IF true F ∧ mz_IG G ∧ mz_IR [] true R ∧ (∀ k : Nat, k ∉ ([8] : List Nat) → F k = Fa k) ∧ (∀ k : Nat, k ∉ ([6, 7] : List Nat) → R k = Ra k) ∧ (∀ k : Nat, k ∉ ([] : List Nat) → G k = Ga k))) 0 0 (mz_W ad am) := by
  refine mz_met (y := yX13_remember) (cc := cX13_remember) (maxL := 3) (ret := none) (av := [.ref am, .int p1]) _ (by decide) (Nat.le_of_ble_eq_true rfl) ?_
  intro p e s m args below meth c hx hb hr hml hts htl hown hlocks hK H locs hM hS ls hl
  have hown : s.vm.findClass RX13 = some m.cls := hown
  have hl : lv_has ls 3 [(0, .ref am), (1, .int p1)] := hl
  have hr_p1 := tk_rng p1
  refine lv_aload_n hx hb dX13_remember_0 rfl (lv_at hl 0 rfl) ?_
  refine mz_getI hx hb htl hown hK hM 8 (Nat.le_of_ble_eq_true rfl) rfl (htl _ mw_289) (fun _ h9 => h9) dX13_remember_1 (fun v2 hf1 => ?_)
  have hq_v2 := tk_rng v2
  have hr_v2 : 0 ≤ v2.toInt ∧ v2.toInt ≤ 16 := hIF.at hf1
  refine lv_bipush (v := 16) hx hb dX13_remember_4 (by decide) ?_
  have hj554 : ∀ (v552 : Int32) (H : Heap) (locs : List Loc) (F : Nat → Int32) (R : Nat → Nat → Int32), (0 ≤ v552.toInt) → (v552.toInt ≤ 15) → (0 ≤ v2.toInt + (-1) * v552.toInt) → (0 ≤ (-1) * v2.toInt + v552.toInt + 1) → (mz_S D cy ad am F Ga R Sa H) → (va_S (mz_W ad am) s.heap H locs) → (mz_IF true F) → (mz_IR [] true R) → (∀ k : Nat, k ∉ ([8] : List Nat) → F k = Fa k) → (∀ k : Nat, k ∉ ([6, 7] : List Nat) → R k = Ra k) → (F 8 = v552) → ∀ ls : Array Slot, lv_has ls 3 [(0, .ref am), (1, .int p1)] → W p l e ({ frames := 4, cells := 0, slots := 0, locals := 210 }) s m args below meth c H locs 0 0 (MQ below (mz_w D cy ad am (fun F G R S => mz_IF true F ∧ mz_IG G ∧ mz_IR [] true R ∧ (∀ k : Nat, k ∉ ([8] : List Nat) → F k = Fa k) ∧ (∀ k : Nat, k ∉ ([6, 7] : List Nat) → R k = Ra k) ∧ (∀ k : Nat, k ∉ ([] : List Nat) → G k = Ga k))) args s 0 0 (mz_W ad am)) (F0 m 77 ls []) := by
    intro v552 H locs F R hq0_j554 hq1_j554 hq2_j554 hq3_j554 hM hS hIF hIR hFF hRR hf1 ls hl
    have hq_v552 := tk_rng v552
    have hr_v552 : 0 ≤ v552.toInt ∧ v552.toInt ≤ 16 := hIF.at hf1
    refine lv_aload_n hx hb dX13_remember_77 rfl (lv_at hl 0 rfl) ?_
    refine lv_aload_n hx hb dX13_remember_78 rfl (lv_at hl 0 rfl) ?_
    refine mz_getI hx hb htl hown hK hM 8 (Nat.le_of_ble_eq_true rfl) rfl (htl _ mw_289) (fun _ h9 => h9) dX13_remember_79 (fun v9 e9 => ?_)
    refine fx_ti (v := v552) (e9.symm.trans hf1) ?_
    refine mz_Vv (As := [.int v552]) (rest := []) ⟨hx, hb, hml, hown, hts⟩ hK hM hS (k_X13_keepAll l D cy ld ad am hD _ _ _ _ v552 hIF hIG hIR (by omega) (by omega)) ⟨callB_of 1 hts (wl_in mw_1033) rfl rfl rfl (htl _ mw_5) (htl _ mw_1030) hd_yX13_keepAll ⟨(Nat.le_of_ble_eq_true rfl), (Nat.le_of_ble_eq_true rfl)⟩, htl _ mw_1031, htl _ mw_1032⟩ rfl hl.1 rfl (Nat.le_of_ble_eq_true rfl) dX13_remember_82 ⟨(Nat.le_of_ble_eq_true rfl), (Nat.le_of_ble_eq_true rfl)⟩ (fun H locs F G R S hpo hM hS => ?_)
    obtain ⟨hIF, hIG, hIR, hfr9, hrr9, hgr9⟩ := hpo
    have hFF := mz_fr (K := [8]) (Fa := Fa) hfr9 hFF (by decide)
    have hRR := mz_fr (K := [6, 7]) (Fa := Ra) hrr9 hRR (by decide)
    have hGG := mz_fr (K := []) (Fa := Ga) hgr9 (fun _ _ => rfl) (by decide)
    have hf1 := (hfr9 8 (by decide)).trans hf1
    refine lv_aload_n hx hb dX13_remember_85 rfl (lv_at hl 0 rfl) ?_
    refine mz_getR hx hb htl hown hK hM 7 (Nat.le_of_ble_eq_true rfl) (Nat.le_of_ble_eq_true rfl) (htl _ mw_192) (fun _ h9 => h9) dX13_remember_86 ?_
    refine lv_aload_n hx hb dX13_remember_89 rfl (lv_at hl 0 rfl) ?_
    refine mz_getI hx hb htl hown hK hM 8 (Nat.le_of_ble_eq_true rfl) rfl (htl _ mw_289) (fun _ h9 => h9) dX13_remember_90 (fun v9 e9 => ?_)
    refine fx_ti (v := v552) (e9.symm.trans hf1) ?_
    refine lv_iload_n hx hb dX13_remember_93 rfl (lv_at hl 1 rfl) ?_
    refine mz_iast (x := p1) hx hb hK hD hM hS 7 (Nat.le_of_ble_eq_true rfl) rfl (nn := 16) rfl rfl (by omega) (by omega) dX13_remember_94 (fun H locs R hM hS hw9 hj9 => ?_)
    have hIR := hIR.put hw9 hj9 (mz_elp (hIR.at 7) (show 0 ≤ (p1 : Int32).toInt by omega) (show (p1 : Int32).toInt ≤ 3 by omega))
    have hRR := mz_frp (K := [6, 7]) (Fa := Ra) hj9 hRR (by decide)
    refine lv_aload_n hx hb dX13_remember_95 rfl (lv_at hl 0 rfl) ?_
    refine lv_dup hx hb dX13_remember_96 rfl ?_
    refine mz_getI hx hb htl hown hK hM 8 (Nat.le_of_ble_eq_true rfl) rfl (htl _ mw_289) (fun _ h9 => h9) dX13_remember_97 (fun v9 e9 => ?_)
    refine fx_ti (v := v552) (e9.symm.trans hf1) ?_
    refine lv_iconst (v := 1) hx hb dX13_remember_100 (by decide) ?_
    refine lv_iadd hx hb dX13_remember_101 ?_
    refine tk_add rfl (show (1 : Int32).toInt = 1 by decide) (by omega) (by omega) (fun v557 h_v557 => ?_)
    refine mz_putI (ty := .int) (x := v557) hx hb htl hown hK hD hM hS 8 (Nat.le_of_ble_eq_true rfl) rfl (htl _ mw_289) (fun _ h9 => h9) rfl (tyX13_ok 8 (by decide)) rfl rfl dX13_remember_102 (fun H locs F hM hS hf9 hj9 => ?_)
    have hIF := hIF.put hf9 hj9 (show 0 ≤ (v557 : Int32).toInt by omega) (show (v557 : Int32).toInt ≤ 16 by omega) (by decide)
    have hFF := mz_frp (K := [8]) (Fa := Fa) hj9 hFF (by decide)
    have hf559 := hf9
    exact mz_vret hx hb hr hlocks ⟨hIF, hIG, hIR, hFF, hRR, hGG⟩ hM hS dX13_remember_105
  refine lv_icmp_ne (tgt := 77) hx hb dX13_remember_6 (by decide) (fun c9 => ?_) (fun c9 => ?_)
  · have hc3 : ¬ (v2.toInt = 16) := fun h9 => c9 ((fi_eq rfl (show (16 : Int32).toInt = 16 by decide)).mpr h9)
    exact hj554 v2 _ _ _ _ (by omega) (by omega) (by omega) (by omega) hM hS hIF hIR (fun _ _ => rfl) (fun _ _ => rfl) hf1 _ (lv_sub hl [0, 1] rfl)
  · have hc3 : v2.toInt = 16 := (fi_eq rfl (show (16 : Int32).toInt = 16 by decide)).mp c9
    refine lv_iconst (v := 0) hx hb dX13_remember_9 (by decide) ?_
    refine lv_istore_n (lv' := [(2, .int 0), (0, .ref am), (1, .int p1)]) hx hb dX13_remember_10 rfl hl (by decide) rfl (fun ls hl => ?_)
    have hI9 := hIR
    have hIR := hIR.hole (X := [6])
    obtain ⟨cf, ecf⟩ : ∃ z : Nat → Int32, Ra 6 = z := ⟨_, rfl⟩
    have ecg := ecf
    have hl910 : ∀ (N_l910 : Nat) (v560 : Int32) (H : Heap) (locs : List Loc) (R : Nat → Nat → Int32), (0 ≤ v560.toInt) → (v560.toInt ≤ 780) → (mz_S D cy ad am Fa Ga R Sa H) → (va_S (mz_W ad am) s.heap H locs) → (mz_IR [6] true R) → (∀ k : Nat, k ∉ ([6, 7] : List Nat) → R k = Ra k) → (R 6 = va_cpy cf cf 52 0 v560.toInt.toNat) → ((-1) * v560.toInt + 998 < (N_l910 : Int)) → ∀ ls : Array Slot, lv_has ls 3 [(2, .int v560), (0, .ref am), (1, .int p1)] → W p l e ({ frames := 4, cells := 0, slots := 0, locals := 210 }) s m args below meth c H locs 0 0 (MQ below (mz_w D cy ad am (fun F G R S => mz_IF true F ∧ mz_IG G ∧ mz_IR [] true R ∧ (∀ k : Nat, k ∉ ([8] : List Nat) → F k = Fa k) ∧ (∀ k : Nat, k ∉ ([6, 7] : List Nat) → R k = Ra k) ∧ (∀ k : Nat, k ∉ ([] : List Nat) → G k = Ga k))) args s 0 0 (mz_W ad am)) (F0 m 11 ls []) := by
      intro N_l910
      induction N_l910 with
      | zero => intro v560 H locs R hq0_l910 hq1_l910 hM hS hIR hRR hcp hm_l910 ls hl; exfalso; omega
      | succ N_l910 ih_l910 =>
        intro v560 H locs R hq0_l910 hq1_l910 hM hS hIR hRR hcp hm_l910 ls hl
        refine lv_iload_n hx hb dX13_remember_11 rfl (lv_at hl 0 rfl) ?_
        refine lv_sipush (v := 780) hx hb dX13_remember_12 (by decide) ?_
        refine lv_icmp_ge (tgt := 39) hx hb dX13_remember_15 (by decide) (fun c9 => ?_) (fun c9 => ?_)
        · have hc911 : 780 ≤ v560.toInt := (fi_le (show (780 : Int32).toInt = 780 by decide) rfl).mp c9
          have e9 : v560.toInt.toNat = 780 := by omega
          rw [e9] at hcp
          have hIR := hIR.close (by rw [hcp]; exact mz_shift (by rw [← ecg]; exact hI9.at 6))
          refine lv_iconst (v := 0) hx hb dX13_remember_39 (by decide) ?_
          refine lv_istore_n (lv' := [(2, .int 0), (0, .ref am), (1, .int p1)]) hx hb dX13_remember_40 rfl hl (by decide) rfl (fun ls hl => ?_)
          have hl982 : ∀ (N_l982 : Nat) (v916 : Int32) (H : Heap) (locs : List Loc) (R : Nat → Nat → Int32), (0 ≤ v916.toInt) → (0 ≤ v2.toInt + (-1) * v916.toInt + (-1)) → (mz_S D cy ad am Fa Ga R Sa H) → (va_S (mz_W ad am) s.heap H locs) → (mz_IR [] true R) → (∀ k : Nat, k ∉ ([6, 7] : List Nat) → R k = Ra k) → ((-1) * v916.toInt + 15 < (N_l982 : Int)) → ∀ ls : Array Slot, lv_has ls 3 [(2, .int v916), (0, .ref am), (1, .int p1)] → W p l e ({ frames := 4, cells := 0, slots := 0, locals := 210 }) s m args below meth c H locs 0 0 (MQ below (mz_w D cy ad am (fun F G R S => mz_IF true F ∧ mz_IG G ∧ mz_IR [] true R ∧ (∀ k : Nat, k ∉ ([8] : List Nat) → F k = Fa k) ∧ (∀ k : Nat, k ∉ ([6, 7] : List Nat) → R k = Ra k) ∧ (∀ k : Nat, k ∉ ([] : List Nat) → G k = Ga k))) args s 0 0 (mz_W ad am)) (F0 m 41 ls []) := by
            intro N_l982
            induction N_l982 with
            | zero => intro v916 H locs R hq0_l982 hq1_l982 hM hS hIR hRR hm_l982 ls hl; exfalso; omega
            | succ N_l982 ih_l982 =>
              intro v916 H locs R hq0_l982 hq1_l982 hM hS hIR hRR hm_l982 ls hl
              refine lv_iload_n hx hb dX13_remember_41 rfl (lv_at hl 0 rfl) ?_
              refine lv_bipush (v := 15) hx hb dX13_remember_42 (by decide) ?_
              refine lv_icmp_ge (tgt := 67) hx hb dX13_remember_44 (by decide) (fun c9 => ?_) (fun c9 => ?_)
              · have hc983 : 15 ≤ v916.toInt := (fi_le (show (15 : Int32).toInt = 15 by decide) rfl).mp c9
                refine lv_aload_n hx hb dX13_remember_67 rfl (lv_at hl 1 rfl) ?_
                refine lv_dup hx hb dX13_remember_68 rfl ?_
                refine mz_getI hx hb htl hown hK hM 8 (Nat.le_of_ble_eq_true rfl) rfl (htl _ mw_289) (fun _ h9 => h9) dX13_remember_69 (fun v9 e9 => ?_)
                refine fx_ti (v := v2) (e9.symm.trans hf1) ?_
                refine lv_iconst (v := 1) hx hb dX13_remember_72 (by decide) ?_
                refine lv_isub hx hb dX13_remember_73 ?_
                refine tk_sub rfl (show (1 : Int32).toInt = 1 by decide) (by omega) (by omega) (fun v988 h_v988 => ?_)
                refine mz_putI (ty := .int) (x := v988) hx hb htl hown hK hD hM hS 8 (Nat.le_of_ble_eq_true rfl) rfl (htl _ mw_289) (fun _ h9 => h9) rfl (tyX13_ok 8 (by decide)) rfl rfl dX13_remember_74 (fun H locs F hM hS hf9 hj9 => ?_)
                have hIF := hIF.put hf9 hj9 (show 0 ≤ (v988 : Int32).toInt by omega) (show (v988 : Int32).toInt ≤ 16 by omega) (by decide)
                have hFF := mz_frp (K := [8]) (Fa := Fa) hj9 (fun _ _ => rfl) (by decide)
                have hf990 := hf9
                exact hj554 v988 _ _ _ _ (by omega) (by omega) (by omega) (by omega) hM hS hIF hIR hFF hRR hf990 _ (lv_sub hl [1, 2] rfl)
              · have hc983 : ¬ (15 ≤ v916.toInt) := fun h9 => c9 ((fi_le (show (15 : Int32).toInt = 15 by decide) rfl).mpr h9)
                refine lv_aload_n hx hb dX13_remember_47 rfl (lv_at hl 1 rfl) ?_
                refine mz_getR hx hb htl hown hK hM 7 (Nat.le_of_ble_eq_true rfl) (Nat.le_of_ble_eq_true rfl) (htl _ mw_192) (fun _ h9 => h9) dX13_remember_48 ?_
                refine lv_iload_n hx hb dX13_remember_51 rfl (lv_at hl 0 rfl) ?_
                refine lv_aload_n hx hb dX13_remember_52 rfl (lv_at hl 1 rfl) ?_
                refine mz_getR hx hb htl hown hK hM 7 (Nat.le_of_ble_eq_true rfl) (Nat.le_of_ble_eq_true rfl) (htl _ mw_192) (fun _ h9 => h9) dX13_remember_53 ?_
                refine lv_iload_n hx hb dX13_remember_56 rfl (lv_at hl 0 rfl) ?_
                refine lv_iconst (v := 1) hx hb dX13_remember_57 (by decide) ?_
                refine lv_iadd hx hb dX13_remember_58 ?_
                refine tk_add rfl (show (1 : Int32).toInt = 1 by decide) (by omega) (by omega) (fun v991 h_v991 => ?_)
                refine mz_iald hx hb hK hM 7 (Nat.le_of_ble_eq_true rfl) rfl (nn := 16) rfl rfl (by omega) (by omega) dX13_remember_59 (fun v992 e_v992 => ?_)
                have hq_v992 := tk_rng v992
                have he_v992 : 0 ≤ v992.toInt ∧ v992.toInt ≤ 3 := mz_elg (n := 16) (hIR.at 7) e_v992 rfl (by omega) (by omega)
                refine mz_iast (x := v992) hx hb hK hD hM hS 7 (Nat.le_of_ble_eq_true rfl) rfl (nn := 16) rfl rfl (by omega) (by omega) dX13_remember_60 (fun H locs R hM hS hw9 hj9 => ?_)
                have hIR := hIR.put hw9 hj9 (mz_elp (hIR.at 7) (show 0 ≤ (v992 : Int32).toInt by omega) (show (v992 : Int32).toInt ≤ 3 by omega))
                have hRR := mz_frp (K := [6, 7]) (Fa := Ra) hj9 hRR (by decide)
                obtain ⟨v994, h_v994, e_v994⟩ := tk_inc v916 1 (by decide) (by omega) (by omega)
                refine lv_iinc (v := v994) (lv' := [(2, .int v994), (0, .ref am), (1, .int p1)]) hx hb dX13_remember_61 hl (k := 0) rfl e_v994 (by decide) rfl (fun ls hl => ?_)
                refine lv_goto (tgt := 41) hx hb dX13_remember_64 (by decide) ?_
                exact ih_l982 v994 _ _ _ (by omega) (by omega) hM hS hIR hRR (by omega) _ (lv_sub hl [0, 1, 2] rfl)
          have hk_0 : (0 : Int32).toInt = 0 := by decide
          exact hl982 16 0 _ _ _ (by omega) (by omega) hM hS hIR hRR (by omega) _ (lv_sub hl [0, 1, 2] rfl)
        · have hc911 : ¬ (780 ≤ v560.toInt) := fun h9 => c9 ((fi_le (show (780 : Int32).toInt = 780 by decide) rfl).mpr h9)
          refine lv_aload_n hx hb dX13_remember_18 rfl (lv_at hl 1 rfl) ?_
          refine mz_getR hx hb htl hown hK hM 6 (Nat.le_of_ble_eq_true rfl) (Nat.le_of_ble_eq_true rfl) (htl _ mw_191) (fun _ h9 => h9) dX13_remember_19 ?_
          refine lv_iload_n hx hb dX13_remember_22 rfl (lv_at hl 0 rfl) ?_
          refine lv_aload_n hx hb dX13_remember_23 rfl (lv_at hl 1 rfl) ?_
          refine mz_getR hx hb htl hown hK hM 6 (Nat.le_of_ble_eq_true rfl) (Nat.le_of_ble_eq_true rfl) (htl _ mw_191) (fun _ h9 => h9) dX13_remember_24 ?_
          refine lv_iload_n hx hb dX13_remember_27 rfl (lv_at hl 0 rfl) ?_
          refine lv_bipush (v := 52) hx hb dX13_remember_28 (by decide) ?_
          refine lv_iadd hx hb dX13_remember_30 ?_
          refine tk_add rfl (show (52 : Int32).toInt = 52 by decide) (by omega) (by omega) (fun v995 h_v995 => ?_)
          refine mz_iald hx hb hK hM 6 (Nat.le_of_ble_eq_true rfl) rfl (nn := 1196) rfl rfl (by omega) (by omega) dX13_remember_31 (fun v996 e_v996 => ?_)
          have hq_v996 := tk_rng v996
          refine mz_iast (x := v996) hx hb hK hD hM hS 6 (Nat.le_of_ble_eq_true rfl) rfl (nn := 1196) rfl rfl (by omega) (by omega) dX13_remember_32 (fun H locs R hM hS hw9 hj9 => ?_)
          have hIR := hIR.putX hj9 (by decide)
          have hcp := mz_cps (sp := 52) (dp := 0) (n := v560.toInt.toNat) hw9 hcp (by omega) (by have h9 := tk_nat (i := v995) rfl (by omega); rw [← e_v996, hcp, mz_cpout (by omega)]; congr 1; omega)
          have hRR := mz_frp (K := [6, 7]) (Fa := Ra) hj9 hRR (by decide)
          obtain ⟨v998, h_v998, e_v998⟩ := tk_inc v560 1 (by decide) (by omega) (by omega)
          refine lv_iinc (v := v998) (lv' := [(2, .int v998), (0, .ref am), (1, .int p1)]) hx hb dX13_remember_33 hl (k := 0) rfl e_v998 (by decide) rfl (fun ls hl => ?_)
          refine lv_goto (tgt := 11) hx hb dX13_remember_36 (by decide) ?_
          exact ih_l910 v998 _ _ _ (by omega) (by omega) hM hS hIR hRR (by rw [show v998.toInt.toNat = v560.toInt.toNat + 1 by omega]; exact hcp) (by omega) _ (lv_sub hl [0, 1, 2] rfl)
    have hk_0 : (0 : Int32).toInt = 0 := by decide
    exact hl910 999 0 _ _ _ (by omega) (by omega) hM hS hIR (fun _ _ => rfl) (by rw [show (0 : Int32).toInt.toNat = 0 by decide, mz_cp0]; exact ecg) (by omega) _ (lv_sub hl [0, 1, 2] rfl)
end
section
theorem hd_yX13_putBack : yX13_putBack.cls ≠ "java/lang/invoke/MethodHandle" ∧ yX13_putBack.cls ≠ "java/lang/invoke/VarHandle" ∧ (parseMethodDescriptor yX13_putBack.desc).map (fun d => d.parameters.length) = some 1 := by decide +kernel
theorem hd_yX13_tell : yX13_tell.cls ≠ "java/lang/invoke/MethodHandle" ∧ yX13_tell.cls ≠ "java/lang/invoke/VarHandle" ∧ (parseMethodDescriptor yX13_tell.desc).map (fun d => d.parameters.length) = some 1 := by decide +kernel
theorem dX13_undo_0 : decode cX13_undo 0 = .ok (.aload_n 0, 1) := by decide +kernel
theorem dX13_undo_1 : decode cX13_undo 1 = .ok (.iconst 0, 1) := by decide +kernel
theorem dX13_undo_2 : decode cX13_undo 2 = .ok (.putfield 170, 3) := by decide +kernel
theorem dX13_undo_5 : decode cX13_undo 5 = .ok (.aload_n 0, 1) := by decide +kernel
theorem dX13_undo_6 : decode cX13_undo 6 = .ok (.getfield 176, 3) := by decide +kernel
theorem dX13_undo_9 : decode cX13_undo 9 = .ok (.ifCond .ne 10, 3) := by decide +kernel
theorem dX13_undo_19 : decode cX13_undo 19 = .ok (.aload_n 0, 1) := by decide +kernel
theorem dX13_undo_20 : decode cX13_undo 20 = .ok (.dup, 1) := by decide +kernel
theorem dX13_undo_21 : decode cX13_undo 21 = .ok (.getfield 176, 3) := by decide +kernel
theorem dX13_undo_24 : decode cX13_undo 24 = .ok (.iconst 1, 1) := by decide +kernel
theorem dX13_undo_25 : decode cX13_undo 25 = .ok (.isub, 1) := by decide +kernel
theorem dX13_undo_26 : decode cX13_undo 26 = .ok (.putfield 176, 3) := by decide +kernel
theorem dX13_undo_29 : decode cX13_undo 29 = .ok (.aload_n 0, 1) := by decide +kernel
theorem dX13_undo_30 : decode cX13_undo 30 = .ok (.aload_n 0, 1) := by decide +kernel
theorem dX13_undo_31 : decode cX13_undo 31 = .ok (.getfield 176, 3) := by decide +kernel
theorem dX13_undo_34 : decode cX13_undo 34 = .ok (.invokevirtual 187, 3) := by decide +kernel
theorem dX13_undo_37 : decode cX13_undo 37 = .ok (.aload_n 0, 1) := by decide +kernel
theorem dX13_undo_38 : decode cX13_undo 38 = .ok (.aload_n 0, 1) := by decide +kernel
theorem dX13_undo_39 : decode cX13_undo 39 = .ok (.getfield 26, 3) := by decide +kernel
theorem dX13_undo_42 : decode cX13_undo 42 = .ok (.aload_n 0, 1) := by decide +kernel
theorem dX13_undo_43 : decode cX13_undo 43 = .ok (.getfield 176, 3) := by decide +kernel
theorem dX13_undo_46 : decode cX13_undo 46 = .ok (.iaload, 1) := by decide +kernel
theorem dX13_undo_47 : decode cX13_undo 47 = .ok (.invokevirtual 183, 3) := by decide +kernel
theorem dX13_undo_50 : decode cX13_undo 50 = .ok (.ireturn, 1) := by decide +kernel
theorem dX13_undo_12 : decode cX13_undo 12 = .ok (.aload_n 0, 1) := by decide +kernel
theorem dX13_undo_13 : decode cX13_undo 13 = .ok (.bipush (-3), 2) := by decide +kernel
theorem dX13_undo_15 : decode cX13_undo 15 = .ok (.invokevirtual 183, 3) := by decide +kernel
theorem dX13_undo_18 : decode cX13_undo 18 = .ok (.ireturn, 1) := by decide +kernel
set_option maxHeartbeats 4000000 in
set_option maxRecDepth 100000 in
theorem k_X13_undo (l : Launch) (D : va_G) (cy : Nat → ClassId) (ld ad : Nat → Nat) (am : Nat) (hD : mz_D ad am) (Fa : Nat → Int32) (Ga : Nat → Int64) (Ra : Nat → Nat → Int32) (Sa : Nat → Nat → Int64) (hIF : mz_IF true Fa) (hIG : mz_IG Ga) (hIR : mz_IR [] true Ra) : Met l yX13_undo (wl yX13_undo cX13_undo 1 (some .int)) ({ frames := 4, cells := 0, slots := 0, locals := 210 }) (mz_p D cy ld ad am Fa Ga Ra Sa [.ref am]) (mz_i D cy ad am (fun r F G R S => mz_IF true F ∧ mz_IG G ∧ mz_IR [] true R ∧ (∀ k : Nat, k ∉ ([0, 1, 8] : List Nat) → F k = Fa k) ∧ (∀ k : Nat, k ∉ ([2, 3] : List Nat) → R k = Ra k) ∧ (∀ k : Nat, k ∉ ([] : List Nat) → G k = Ga k) ∧ rK1 (Ra 3) (R 3) ∧ (-3) ≤ r.toInt ∧ r.toInt ≤ 3)) 0 0 (mz_W ad am) := by
  refine mz_met (y := yX13_undo) (cc := cX13_undo) (maxL := 1) (ret := (some .int)) (av := [.ref am]) _ (by decide) (Nat.le_of_ble_eq_true rfl) ?_
  intro p e s m args below meth c hx hb hr hml hts htl hown hlocks hK H locs hM hS ls hl
  have hown : s.vm.findClass RX13 = some m.cls := hown
  have hl : lv_has ls 1 [(0, .ref am)] := hl
  refine lv_aload_n hx hb dX13_undo_0 rfl (lv_at hl 0 rfl) ?_
  refine lv_iconst (v := 0) hx hb dX13_undo_1 (by decide) ?_
  have hk_0 : (0 : Int32).toInt = 0 := by decide
  refine mz_putI (ty := .int) (x := 0) hx hb htl hown hK hD hM hS 0 (Nat.le_of_ble_eq_true rfl) rfl (htl _ mw_286) (fun _ h9 => h9) rfl (tyX13_ok 0 (by decide)) rfl rfl dX13_undo_2 (fun H locs F hM hS hf9 hj9 => ?_)
  have hIF := hIF.put hf9 hj9 (tk_rng _).1 (tk_rng _).2 (by decide)
  have hFF := mz_frp (K := [0, 1, 8]) (Fa := Fa) hj9 (fun _ _ => rfl) (by decide)
  have hf2 := hf9
  refine lv_aload_n hx hb dX13_undo_5 rfl (lv_at hl 0 rfl) ?_
  refine mz_getI hx hb htl hown hK hM 8 (Nat.le_of_ble_eq_true rfl) rfl (htl _ mw_289) (fun _ h9 => h9) dX13_undo_6 (fun v4 hf3 => ?_)
  have hq_v4 := tk_rng v4
  have hr_v4 : 0 ≤ v4.toInt ∧ v4.toInt ≤ 16 := hIF.at hf3
  refine lv_if_ne (tgt := 19) hx hb dX13_undo_9 (by decide) (fun c9 => ?_) (fun c9 => ?_)
  · have hc5 : ¬ (v4.toInt = 0) := fun h9 => c9 ((fi_eq rfl (show (0 : Int32).toInt = 0 by decide)).mpr h9)
    refine lv_aload_n hx hb dX13_undo_19 rfl (lv_at hl 0 rfl) ?_
    refine lv_dup hx hb dX13_undo_20 rfl ?_
    refine mz_getI hx hb htl hown hK hM 8 (Nat.le_of_ble_eq_true rfl) rfl (htl _ mw_289) (fun _ h9 => h9) dX13_undo_21 (fun v9 e9 => ?_)
    refine fx_ti (v := v4) (e9.symm.trans hf3) ?_
    refine lv_iconst (v := 1) hx hb dX13_undo_24 (by decide) ?_
    refine lv_isub hx hb dX13_undo_25 ?_
    refine tk_sub rfl (show (1 : Int32).toInt = 1 by decide) (by omega) (by omega) (fun v6 h_v6 => ?_)
    refine mz_putI (ty := .int) (x := v6) hx hb htl hown hK hD hM hS 8 (Nat.le_of_ble_eq_true rfl) rfl (htl _ mw_289) (fun _ h9 => h9) rfl (tyX13_ok 8 (by decide)) rfl rfl dX13_undo_26 (fun H locs F hM hS hf9 hj9 => ?_)
    have hIF := hIF.put hf9 hj9 (show 0 ≤ (v6 : Int32).toInt by omega) (show (v6 : Int32).toInt ≤ 16 by omega) (by decide)
    have hFF := mz_frp (K := [0, 1, 8]) (Fa := Fa) hj9 hFF (by decide)
    have hf2 := (hj9 0 (by decide)).trans hf2
    have hf11 := hf9
    refine lv_aload_n hx hb dX13_undo_29 rfl (lv_at hl 0 rfl) ?_
    refine lv_aload_n hx hb dX13_undo_30 rfl (lv_at hl 0 rfl) ?_
    refine mz_getI hx hb htl hown hK hM 8 (Nat.le_of_ble_eq_true rfl) rfl (htl _ mw_289) (fun _ h9 => h9) dX13_undo_31 (fun v9 e9 => ?_)
    refine fx_ti (v := v6) (e9.symm.trans hf11) ?_
    refine mz_Vv (As := [.int v6]) (rest := []) ⟨hx, hb, hml, hown, hts⟩ hK hM hS (k_X13_putBack l D cy ld ad am hD _ _ _ _ v6 hIF hIG hIR (by omega) (by omega)) ⟨callB_of 1 hts (wl_in mw_1162) rfl rfl rfl (htl _ mw_5) (htl _ mw_1159) hd_yX13_putBack ⟨(Nat.le_of_ble_eq_true rfl), (Nat.le_of_ble_eq_true rfl)⟩, htl _ mw_1160, htl _ mw_1161⟩ rfl hl.1 rfl (Nat.le_of_ble_eq_true rfl) dX13_undo_34 ⟨(Nat.le_of_ble_eq_true rfl), (Nat.le_of_ble_eq_true rfl)⟩ (fun H locs F G R S hpo hM hS => ?_)
    obtain ⟨hIF, hIG, hIR, hfr9, hrr9, hgr9, hrel9⟩ := hpo
    have hFF := mz_fr (K := [0, 1, 8]) (Fa := Fa) hfr9 hFF (by decide)
    have hRR := mz_fr (K := [2, 3]) (Fa := Ra) hrr9 (fun _ _ => rfl) (by decide)
    have hGG := mz_fr (K := []) (Fa := Ga) hgr9 (fun _ _ => rfl) (by decide)
    have hrel := (rK1.refl rfl).trans hrel9
    have hf2 := (hfr9 0 (by decide)).trans hf2
    have hf11 := (hfr9 8 (by decide)).trans hf11
    refine lv_aload_n hx hb dX13_undo_37 rfl (lv_at hl 0 rfl) ?_
    refine lv_aload_n hx hb dX13_undo_38 rfl (lv_at hl 0 rfl) ?_
    refine mz_getR hx hb htl hown hK hM 7 (Nat.le_of_ble_eq_true rfl) (Nat.le_of_ble_eq_true rfl) (htl _ mw_192) (fun _ h9 => h9) dX13_undo_39 ?_
    refine lv_aload_n hx hb dX13_undo_42 rfl (lv_at hl 0 rfl) ?_
    refine mz_getI hx hb htl hown hK hM 8 (Nat.le_of_ble_eq_true rfl) rfl (htl _ mw_289) (fun _ h9 => h9) dX13_undo_43 (fun v9 e9 => ?_)
    refine fx_ti (v := v6) (e9.symm.trans hf11) ?_
    refine mz_iald hx hb hK hM 7 (Nat.le_of_ble_eq_true rfl) rfl (nn := 16) rfl rfl (by omega) (by omega) dX13_undo_46 (fun v13 e_v13 => ?_)
    have hq_v13 := tk_rng v13
    have he_v13 : 0 ≤ v13.toInt ∧ v13.toInt ≤ 3 := mz_elg (n := 16) (hIR.at 7) e_v13 rfl (by omega) (by omega)
    refine mz_Vi (As := [.int v13]) (rest := []) ⟨hx, hb, hml, hown, hts⟩ hK hM hS (k_X13_tell l D cy ld ad am hD _ _ _ _ v13 hIF hIG hIR (by omega) (by omega)) ⟨callB_of 1 hts (wl_in mw_296) rfl rfl rfl (htl _ mw_5) (htl _ mw_293) hd_yX13_tell ⟨(Nat.le_of_ble_eq_true rfl), (Nat.le_of_ble_eq_true rfl)⟩, htl _ mw_294, htl _ mw_295⟩ rfl hl.1 rfl (Nat.le_of_ble_eq_true rfl) dX13_undo_47 ⟨(Nat.le_of_ble_eq_true rfl), (Nat.le_of_ble_eq_true rfl)⟩ (fun v14 H locs F G R S hpo hM hS => ?_)
    obtain ⟨hIF, hIG, hIR, hfr9, hrr9, hgr9, hpo15⟩ := hpo
    have hq_v14 := tk_rng v14
    have hFF := mz_fr (K := [0, 1, 8]) (Fa := Fa) hfr9 hFF (by decide)
    have hRR := mz_fr (K := [2, 3]) (Fa := Ra) hrr9 hRR (by decide)
    have hGG := mz_fr (K := []) (Fa := Ga) hgr9 hGG (by decide)
    have hrel : rK1 (Ra 3) (R 3) := hrel.trans (rK1.refl (hrr9 3 (by decide)))
    have e_v13 : R 7 (v6 : Int32).toNatClampNeg = _ := (congrFun (hrr9 7 (by decide)) _).trans e_v13
    have hf2 := (hfr9 0 (by decide)).trans hf2
    have hf11 := (hfr9 8 (by decide)).trans hf11
    exact mz_iret (v := v14) hx hb hr rfl hlocks ⟨hIF, hIG, hIR, hFF, hRR, hGG, hrel, (by omega), (by omega)⟩ hM hS dX13_undo_50
  · have hc5 : v4.toInt = 0 := (fi_eq rfl (show (0 : Int32).toInt = 0 by decide)).mp c9
    refine lv_aload_n hx hb dX13_undo_12 rfl (lv_at hl 0 rfl) ?_
    refine lv_bipush (v := (-3)) hx hb dX13_undo_13 (by decide) ?_
    have hk_m3 : ((-3) : Int32).toInt = (-3) := by decide
    refine mz_Vi (As := [.int (-3)]) (rest := []) ⟨hx, hb, hml, hown, hts⟩ hK hM hS (k_X13_tell l D cy ld ad am hD _ _ _ _ (-3) hIF hIG hIR (by omega) (by omega)) ⟨callB_of 1 hts (wl_in mw_296) rfl rfl rfl (htl _ mw_5) (htl _ mw_293) hd_yX13_tell ⟨(Nat.le_of_ble_eq_true rfl), (Nat.le_of_ble_eq_true rfl)⟩, htl _ mw_294, htl _ mw_295⟩ rfl hl.1 rfl (Nat.le_of_ble_eq_true rfl) dX13_undo_15 ⟨(Nat.le_of_ble_eq_true rfl), (Nat.le_of_ble_eq_true rfl)⟩ (fun v17 H locs F G R S hpo hM hS => ?_)
    obtain ⟨hIF, hIG, hIR, hfr9, hrr9, hgr9, hpo18⟩ := hpo
    have hq_v17 := tk_rng v17
    have hFF := mz_fr (K := [0, 1, 8]) (Fa := Fa) hfr9 hFF (by decide)
    have hRR := mz_fr (K := [2, 3]) (Fa := Ra) hrr9 (fun _ _ => rfl) (by decide)
    have hGG := mz_fr (K := []) (Fa := Ga) hgr9 (fun _ _ => rfl) (by decide)
    have hrel : rK1 (Ra 3) (R 3) := (rK1.refl rfl).trans (rK1.refl (hrr9 3 (by decide)))
    have hf2 := (hfr9 0 (by decide)).trans hf2
    have hf3 := (hfr9 8 (by decide)).trans hf3
    exact mz_iret (v := v17) hx hb hr rfl hlocks ⟨hIF, hIG, hIR, hFF, hRR, hGG, hrel, (by omega), (by omega)⟩ hM hS dX13_undo_18
end
section
theorem hd_yX13_in : yX13_in.cls ≠ "java/lang/invoke/MethodHandle" ∧ yX13_in.cls ≠ "java/lang/invoke/VarHandle" ∧ (parseMethodDescriptor yX13_in.desc).map (fun d => d.parameters.length) = some 3 := by decide +kernel
theorem dX13_image_0 : decode cX13_image 0 = .ok (.aload_n 0, 1) := by decide +kernel
theorem dX13_image_1 : decode cX13_image 1 = .ok (.iconst 0, 1) := by decide +kernel
theorem dX13_image_2 : decode cX13_image 2 = .ok (.putfield 170, 3) := by decide +kernel
theorem dX13_image_5 : decode cX13_image 5 = .ok (.iload_n 1, 1) := by decide +kernel
theorem dX13_image_6 : decode cX13_image 6 = .ok (.i2l, 1) := by decide +kernel
theorem dX13_image_7 : decode cX13_image 7 = .ok (.lconst 0, 1) := by decide +kernel
theorem dX13_image_8 : decode cX13_image 8 = .ok (.lconst 1, 1) := by decide +kernel
theorem dX13_image_9 : decode cX13_image 9 = .ok (.invokestatic 190, 3) := by decide +kernel
theorem dX13_image_12 : decode cX13_image 12 = .ok (.ifCond .ne 9, 3) := by decide +kernel
theorem dX13_image_21 : decode cX13_image 21 = .ok (.iconst 0, 1) := by decide +kernel
theorem dX13_image_22 : decode cX13_image 22 = .ok (.istore_n 2, 1) := by decide +kernel
theorem dX13_image_23 : decode cX13_image 23 = .ok (.iload_n 2, 1) := by decide +kernel
theorem dX13_image_24 : decode cX13_image 24 = .ok (.sipush 5560, 3) := by decide +kernel
theorem dX13_image_27 : decode cX13_image 27 = .ok (.if_icmp .ge 27, 3) := by decide +kernel
theorem dX13_image_54 : decode cX13_image 54 = .ok (.aload_n 0, 1) := by decide +kernel
theorem dX13_image_55 : decode cX13_image 55 = .ok (.getfield 19, 3) := by decide +kernel
theorem dX13_image_58 : decode cX13_image 58 = .ok (.iload_n 1, 1) := by decide +kernel
theorem dX13_image_59 : decode cX13_image 59 = .ok (.iconst 1, 1) := by decide +kernel
theorem dX13_image_60 : decode cX13_image 60 = .ok (.bastore, 1) := by decide +kernel
theorem dX13_image_61 : decode cX13_image 61 = .ok (.aload_n 0, 1) := by decide +kernel
theorem dX13_image_62 : decode cX13_image 62 = .ok (.iconst 0, 1) := by decide +kernel
theorem dX13_image_63 : decode cX13_image 63 = .ok (.invokevirtual 183, 3) := by decide +kernel
theorem dX13_image_66 : decode cX13_image 66 = .ok (.ireturn, 1) := by decide +kernel
theorem dX13_image_30 : decode cX13_image 30 = .ok (.aload_n 0, 1) := by decide +kernel
theorem dX13_image_31 : decode cX13_image 31 = .ok (.getfield 16, 3) := by decide +kernel
theorem dX13_image_34 : decode cX13_image 34 = .ok (.sipush 5560, 3) := by decide +kernel
theorem dX13_image_37 : decode cX13_image 37 = .ok (.iload_n 1, 1) := by decide +kernel
theorem dX13_image_38 : decode cX13_image 38 = .ok (.imul, 1) := by decide +kernel
theorem dX13_image_39 : decode cX13_image 39 = .ok (.iload_n 2, 1) := by decide +kernel
theorem dX13_image_40 : decode cX13_image 40 = .ok (.iadd, 1) := by decide +kernel
theorem dX13_image_41 : decode cX13_image 41 = .ok (.aload_n 0, 1) := by decide +kernel
theorem dX13_image_42 : decode cX13_image 42 = .ok (.getfield 13, 3) := by decide +kernel
theorem dX13_image_45 : decode cX13_image 45 = .ok (.iload_n 2, 1) := by decide +kernel
theorem dX13_image_46 : decode cX13_image 46 = .ok (.iaload, 1) := by decide +kernel
theorem dX13_image_47 : decode cX13_image 47 = .ok (.iastore, 1) := by decide +kernel
theorem dX13_image_48 : decode cX13_image 48 = .ok (.iinc 2 1, 3) := by decide +kernel
theorem dX13_image_51 : decode cX13_image 51 = .ok (.goto (-28), 3) := by decide +kernel
theorem dX13_image_15 : decode cX13_image 15 = .ok (.aload_n 0, 1) := by decide +kernel
theorem dX13_image_16 : decode cX13_image 16 = .ok (.iconst (-1), 1) := by decide +kernel
theorem dX13_image_17 : decode cX13_image 17 = .ok (.invokevirtual 183, 3) := by decide +kernel
theorem dX13_image_20 : decode cX13_image 20 = .ok (.ireturn, 1) := by decide +kernel
end
