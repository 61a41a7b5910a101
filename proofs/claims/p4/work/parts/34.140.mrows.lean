theorem hd_yX13_openLevel : yX13_openLevel.cls ≠ "java/lang/invoke/MethodHandle" ∧ yX13_openLevel.cls ≠ "java/lang/invoke/VarHandle" ∧ (parseMethodDescriptor yX13_openLevel.desc).map (fun d => d.parameters.length) = some 1 := by decide +kernel
theorem hd_yX13_weigh : yX13_weigh.cls ≠ "java/lang/invoke/MethodHandle" ∧ yX13_weigh.cls ≠ "java/lang/invoke/VarHandle" ∧ (parseMethodDescriptor yX13_weigh.desc).map (fun d => d.parameters.length) = some 2 := by decide +kernel
theorem dX13_play_0 : decode cX13_play 0 = .ok (.iconst 0, 1) := by decide +kernel
theorem dX13_play_1 : decode cX13_play 1 = .ok (.istore_n 2, 1) := by decide +kernel
theorem dX13_play_2 : decode cX13_play 2 = .ok (.aload_n 0, 1) := by decide +kernel
theorem dX13_play_3 : decode cX13_play 3 = .ok (.iconst 0, 1) := by decide +kernel
theorem dX13_play_4 : decode cX13_play 4 = .ok (.invokevirtual 495, 3) := by decide +kernel
theorem dX13_play_7 : decode cX13_play 7 = .ok (.iload_n 2, 1) := by decide +kernel
theorem dX13_play_8 : decode cX13_play 8 = .ok (.ifCond .lt 165, 3) := by decide +kernel
theorem dX13_play_173 : decode cX13_play 173 = .ok (.return_, 1) := by decide +kernel
theorem dX13_play_11 : decode cX13_play 11 = .ok (.aload_n 0, 1) := by decide +kernel
theorem dX13_play_12 : decode cX13_play 12 = .ok (.getfield 113, 3) := by decide +kernel
theorem dX13_play_15 : decode cX13_play 15 = .ok (.iload_n 2, 1) := by decide +kernel
theorem dX13_play_16 : decode cX13_play 16 = .ok (.dup2, 1) := by decide +kernel
theorem dX13_play_17 : decode cX13_play 17 = .ok (.iaload, 1) := by decide +kernel
theorem dX13_play_18 : decode cX13_play 18 = .ok (.iconst 1, 1) := by decide +kernel
theorem dX13_play_19 : decode cX13_play 19 = .ok (.iadd, 1) := by decide +kernel
theorem dX13_play_20 : decode cX13_play 20 = .ok (.iastore, 1) := by decide +kernel
theorem dX13_play_21 : decode cX13_play 21 = .ok (.aload_n 0, 1) := by decide +kernel
theorem dX13_play_22 : decode cX13_play 22 = .ok (.getfield 113, 3) := by decide +kernel
theorem dX13_play_25 : decode cX13_play 25 = .ok (.iload_n 2, 1) := by decide +kernel
theorem dX13_play_26 : decode cX13_play 26 = .ok (.iaload, 1) := by decide +kernel
theorem dX13_play_27 : decode cX13_play 27 = .ok (.aload_n 0, 1) := by decide +kernel
theorem dX13_play_28 : decode cX13_play 28 = .ok (.getfield 13, 3) := by decide +kernel
theorem dX13_play_31 : decode cX13_play 31 = .ok (.iconst 1, 1) := by decide +kernel
theorem dX13_play_32 : decode cX13_play 32 = .ok (.iaload, 1) := by decide +kernel
theorem dX13_play_33 : decode cX13_play 33 = .ok (.if_icmp .ne 42, 3) := by decide +kernel
theorem dX13_play_75 : decode cX13_play 75 = .ok (.aload_n 0, 1) := by decide +kernel
theorem dX13_play_76 : decode cX13_play 76 = .ok (.aload_n 0, 1) := by decide +kernel
theorem dX13_play_77 : decode cX13_play 77 = .ok (.getfield 113, 3) := by decide +kernel
theorem dX13_play_80 : decode cX13_play 80 = .ok (.iload_n 2, 1) := by decide +kernel
theorem dX13_play_81 : decode cX13_play 81 = .ok (.iaload, 1) := by decide +kernel
theorem dX13_play_82 : decode cX13_play 82 = .ok (.invokevirtual 501, 3) := by decide +kernel
theorem dX13_play_85 : decode cX13_play 85 = .ok (.ifCond .eq (-78), 3) := by decide +kernel
theorem dX13_play_88 : decode cX13_play 88 = .ok (.aload_n 0, 1) := by decide +kernel
theorem dX13_play_89 : decode cX13_play 89 = .ok (.aload_n 0, 1) := by decide +kernel
theorem dX13_play_90 : decode cX13_play 90 = .ok (.getfield 113, 3) := by decide +kernel
theorem dX13_play_93 : decode cX13_play 93 = .ok (.iload_n 2, 1) := by decide +kernel
theorem dX13_play_94 : decode cX13_play 94 = .ok (.iaload, 1) := by decide +kernel
theorem dX13_play_95 : decode cX13_play 95 = .ok (.invokevirtual 477, 3) := by decide +kernel
theorem dX13_play_98 : decode cX13_play 98 = .ok (.pop, 1) := by decide +kernel
theorem dX13_play_99 : decode cX13_play 99 = .ok (.aload_n 0, 1) := by decide +kernel
theorem dX13_play_100 : decode cX13_play 100 = .ok (.getfield 471, 3) := by decide +kernel
theorem dX13_play_103 : decode cX13_play 103 = .ok (.iconst (-1), 1) := by decide +kernel
theorem dX13_play_104 : decode cX13_play 104 = .ok (.if_icmp .ne 28, 3) := by decide +kernel
theorem dX13_play_132 : decode cX13_play 132 = .ok (.aload_n 0, 1) := by decide +kernel
theorem dX13_play_133 : decode cX13_play 133 = .ok (.getfield 471, 3) := by decide +kernel
theorem dX13_play_136 : decode cX13_play 136 = .ok (.iconst (-1), 1) := by decide +kernel
theorem dX13_play_137 : decode cX13_play 137 = .ok (.if_icmp .ne 7, 3) := by decide +kernel
theorem dX13_play_144 : decode cX13_play 144 = .ok (.bipush 10, 2) := by decide +kernel
theorem dX13_play_146 : decode cX13_play 146 = .ok (.iload_n 2, 1) := by decide +kernel
theorem dX13_play_147 : decode cX13_play 147 = .ok (.iconst 1, 1) := by decide +kernel
theorem dX13_play_148 : decode cX13_play 148 = .ok (.iadd, 1) := by decide +kernel
theorem dX13_play_149 : decode cX13_play 149 = .ok (.imul, 1) := by decide +kernel
theorem dX13_play_150 : decode cX13_play 150 = .ok (.aload_n 0, 1) := by decide +kernel
theorem dX13_play_151 : decode cX13_play 151 = .ok (.getfield 471, 3) := by decide +kernel
theorem dX13_play_154 : decode cX13_play 154 = .ok (.iadd, 1) := by decide +kernel
theorem dX13_play_155 : decode cX13_play 155 = .ok (.istore_n 3, 1) := by decide +kernel
theorem dX13_play_156 : decode cX13_play 156 = .ok (.aload_n 0, 1) := by decide +kernel
theorem dX13_play_157 : decode cX13_play 157 = .ok (.bipush 16, 2) := by decide +kernel
theorem dX13_play_159 : decode cX13_play 159 = .ok (.iload_n 2, 1) := by decide +kernel
theorem dX13_play_160 : decode cX13_play 160 = .ok (.iadd, 1) := by decide +kernel
theorem dX13_play_161 : decode cX13_play 161 = .ok (.invokevirtual 187, 3) := by decide +kernel
theorem dX13_play_164 : decode cX13_play 164 = .ok (.aload_n 0, 1) := by decide +kernel
theorem dX13_play_165 : decode cX13_play 165 = .ok (.iload_n 2, 1) := by decide +kernel
theorem dX13_play_166 : decode cX13_play 166 = .ok (.iload_n 3, 1) := by decide +kernel
theorem dX13_play_167 : decode cX13_play 167 = .ok (.invokevirtual 498, 3) := by decide +kernel
theorem dX13_play_170 : decode cX13_play 170 = .ok (.goto (-163), 3) := by decide +kernel
theorem dX13_play_107 : decode cX13_play 107 = .ok (.aload_n 0, 1) := by decide +kernel
theorem dX13_play_108 : decode cX13_play 108 = .ok (.invokevirtual 434, 3) := by decide +kernel
theorem dX13_play_111 : decode cX13_play 111 = .ok (.ifCond .eq 21, 3) := by decide +kernel
theorem dX13_play_140 : decode cX13_play 140 = .ok (.iconst 0, 1) := by decide +kernel
theorem dX13_play_141 : decode cX13_play 141 = .ok (.goto 14, 3) := by decide +kernel
theorem dX13_play_114 : decode cX13_play 114 = .ok (.iload_n 2, 1) := by decide +kernel
theorem dX13_play_115 : decode cX13_play 115 = .ok (.iload_n 1, 1) := by decide +kernel
theorem dX13_play_116 : decode cX13_play 116 = .ok (.iconst 1, 1) := by decide +kernel
theorem dX13_play_117 : decode cX13_play 117 = .ok (.isub, 1) := by decide +kernel
theorem dX13_play_118 : decode cX13_play 118 = .ok (.if_icmp .ge 14, 3) := by decide +kernel
theorem dX13_play_121 : decode cX13_play 121 = .ok (.iinc 2 1, 3) := by decide +kernel
theorem dX13_play_124 : decode cX13_play 124 = .ok (.aload_n 0, 1) := by decide +kernel
theorem dX13_play_125 : decode cX13_play 125 = .ok (.iload_n 2, 1) := by decide +kernel
theorem dX13_play_126 : decode cX13_play 126 = .ok (.invokevirtual 495, 3) := by decide +kernel
theorem dX13_play_129 : decode cX13_play 129 = .ok (.goto (-122), 3) := by decide +kernel
theorem dX13_play_36 : decode cX13_play 36 = .ok (.aload_n 0, 1) := by decide +kernel
theorem dX13_play_37 : decode cX13_play 37 = .ok (.bipush 16, 2) := by decide +kernel
theorem dX13_play_39 : decode cX13_play 39 = .ok (.iload_n 2, 1) := by decide +kernel
theorem dX13_play_40 : decode cX13_play 40 = .ok (.iadd, 1) := by decide +kernel
theorem dX13_play_41 : decode cX13_play 41 = .ok (.invokevirtual 187, 3) := by decide +kernel
theorem dX13_play_44 : decode cX13_play 44 = .ok (.iinc 2 (-1), 3) := by decide +kernel
theorem dX13_play_47 : decode cX13_play 47 = .ok (.iload_n 2, 1) := by decide +kernel
theorem dX13_play_48 : decode cX13_play 48 = .ok (.ifCond .lt (-41), 3) := by decide +kernel
theorem dX13_play_51 : decode cX13_play 51 = .ok (.aload_n 0, 1) := by decide +kernel
theorem dX13_play_52 : decode cX13_play 52 = .ok (.bipush 16, 2) := by decide +kernel
theorem dX13_play_54 : decode cX13_play 54 = .ok (.iload_n 2, 1) := by decide +kernel
theorem dX13_play_55 : decode cX13_play 55 = .ok (.iadd, 1) := by decide +kernel
theorem dX13_play_56 : decode cX13_play 56 = .ok (.invokevirtual 187, 3) := by decide +kernel
theorem dX13_play_59 : decode cX13_play 59 = .ok (.aload_n 0, 1) := by decide +kernel
theorem dX13_play_60 : decode cX13_play 60 = .ok (.iload_n 2, 1) := by decide +kernel
theorem dX13_play_61 : decode cX13_play 61 = .ok (.aload_n 0, 1) := by decide +kernel
theorem dX13_play_62 : decode cX13_play 62 = .ok (.getfield 116, 3) := by decide +kernel
theorem dX13_play_65 : decode cX13_play 65 = .ok (.iload_n 2, 1) := by decide +kernel
theorem dX13_play_66 : decode cX13_play 66 = .ok (.iconst 1, 1) := by decide +kernel
theorem dX13_play_67 : decode cX13_play 67 = .ok (.iadd, 1) := by decide +kernel
theorem dX13_play_68 : decode cX13_play 68 = .ok (.iaload, 1) := by decide +kernel
theorem dX13_play_69 : decode cX13_play 69 = .ok (.invokevirtual 498, 3) := by decide +kernel
theorem dX13_play_72 : decode cX13_play 72 = .ok (.goto (-65), 3) := by decide +kernel
set_option maxHeartbeats 4000000 in
set_option maxRecDepth 100000 in
theorem k_X13_play (l : Launch) (D : va_G) (cy : Nat → ClassId) (ld ad : Nat → Nat) (am : Nat) (hD : mz_D ad am) (Fa : Nat → Int32) (Ga : Nat → Int64) (Ra : Nat → Nat → Int32) (Sa : Nat → Nat → Int64) (p1 : Int32) (g12 : Int32) (g1 : Int32) (hIF : mz_IF true Fa) (hIG : mz_IG Ga) (hIR : mz_IR [] true Ra) (hg_0 : Ra 3 12 = g12) (hg_1 : Ra 3 1 = g1) (hp_0 : 1 ≤ p1.toInt) (hp_1 : p1.toInt ≤ 4) (hp_2 : 0 ≤ g12.toInt) : Met l yX13_play (wl yX13_play cX13_play 4 none) ({ frames := 10, cells := 0, slots := 0, locals := 630 }) (mz_p D cy ld ad am Fa Ga Ra Sa [.ref am, .int p1]) (mz_w D cy ad am (fun F G R S => mz_IF true F ∧ mz_IG G ∧ mz_IR [] true R ∧ (∀ k : Nat, k ∉ ([34, 38, 41] : List Nat) → F k = Fa k) ∧ (∀ k : Nat, k ∉ ([3, 6, 43, 44, 45, 46] : List Nat) → R k = Ra k) ∧ (∀ k : Nat, k ∉ ([39, 40] : List Nat) → G k = Ga k) ∧ rK1 (Ra 3) (R 3))) 0 0 (mz_W ad am) := by
  refine mz_met (y := yX13_play) (cc := cX13_play) (maxL := 4) (ret := none) (av := [.ref am, .int p1]) _ (by decide) (Nat.le_of_ble_eq_true rfl) ?_
  intro p e s m args below meth c hx hb hr hml hts htl hown hlocks hK H locs hM hS ls hl
  have hown : s.vm.findClass RX13 = some m.cls := hown
  have hl : lv_has ls 4 [(0, .ref am), (1, .int p1)] := hl
  have hr_p1 := tk_rng p1
  have hq_g12 := tk_rng g12
  have hq_g1 := tk_rng g1
  have hr_g12 : (-1) ≤ g12.toInt ∧ g12.toInt ≤ 7 := by have h9 := hIR.d; unfold dO at h9; rw [hg_0] at h9; omega
  have hr_g1 : 0 ≤ g1.toInt ∧ g1.toInt ≤ 10 := by have h9 := mz_r3c 1 (hIR.at 3) hg_1 (by decide); unfold mE at h9; omega
  refine lv_iconst (v := 0) hx hb dX13_play_0 (by decide) ?_
  refine lv_istore_n (lv' := [(2, .int 0), (0, .ref am), (1, .int p1)]) hx hb dX13_play_1 rfl hl (by decide) rfl (fun ls hl => ?_)
  refine lv_aload_n hx hb dX13_play_2 rfl (lv_at hl 1 rfl) ?_
  refine lv_iconst (v := 0) hx hb dX13_play_3 (by decide) ?_
  have hd12 : 0 ≤ (Ra 3 12).toInt := by rw [hg_0]; omega
  have hk_0 : (0 : Int32).toInt = 0 := by decide
  refine mz_Vv (As := [.int 0]) (rest := []) ⟨hx, hb, hml, hown, hts⟩ hK hM hS (k_X13_openLevel_x l D cy ld ad am hD _ _ _ _ 0 hIF hIG hIR (by omega) (by omega)) ⟨callB_of 1 hts (wl_in mw_1315) rfl rfl rfl (htl _ mw_5) (htl _ mw_1312) hd_yX13_openLevel ⟨(Nat.le_of_ble_eq_true rfl), (Nat.le_of_ble_eq_true rfl)⟩, htl _ mw_1313, htl _ mw_1314⟩ rfl hl.1 rfl (Nat.le_of_ble_eq_true rfl) dX13_play_4 ⟨(Nat.le_of_ble_eq_true rfl), (Nat.le_of_ble_eq_true rfl)⟩ (fun H locs F G R S hpo hM hS => ?_)
  obtain ⟨hIF, hIG, hIR, hfr9, hrr9, hgr9, hx1, hx2⟩ := hpo
  have hFF := mz_fr (K := [34, 38, 41]) (Fa := Fa) hfr9 (fun _ _ => rfl) (by decide)
  have hRR := mz_fr (K := [3, 6, 43, 44, 45, 46]) (Fa := Ra) hrr9 (fun _ _ => rfl) (by decide)
  have hGG := mz_fr (K := [39, 40]) (Fa := Ga) hgr9 (fun _ _ => rfl) (by decide)
  have hrel : rK1 (Ra 3) (R 3) := (rK1.refl rfl).trans (rK1.refl (hrr9 3 (by decide)))
  have hg_0 : R 3 12 = _ := (congrFun (hrr9 3 (by decide)) 12).trans hg_0
  have hg_1 : R 3 1 = _ := (congrFun (hrr9 3 (by decide)) 1).trans hg_1
  have hsn : sn (R 6) (0 : Int32).toInt := sn.up (k := -1) (fun j hj => absurd hj (by omega)) (by decide) hx2 (by decide) hd12
  have hl832 : ∀ (N_l832 : Nat) (v195 : Int32) (v196 : Int32) (H : Heap) (locs : List Loc) (F : Nat → Int32) (G : Nat → Int64) (R : Nat → Nat → Int32) (S : Nat → Nat → Int64), (v196.toInt ≤ 7) → ((-1) ≤ v195.toInt) → (0 ≤ p1.toInt + (-1) * v195.toInt + (-1)) → (0 ≤ v196.toInt) → (mz_S D cy ad am F G R S H) → (va_S (mz_W ad am) s.heap H locs) → (mz_IF true F) → (mz_IG G) → (mz_IR [] true R) → (∀ k : Nat, k ∉ ([34, 38, 41] : List Nat) → F k = Fa k) → (∀ k : Nat, k ∉ ([39, 40] : List Nat) → G k = Ga k) → (∀ k : Nat, k ∉ ([3, 6, 43, 44, 45, 46] : List Nat) → R k = Ra k) → (rK1 (Ra 3) (R 3)) → (R 3 12 = v196) → (R 3 1 = g1) → (∀ j : Nat, (j : Int) ≤ v195.toInt → -1 ≤ (R 43 j).toInt ∧ (R 43 j).toInt ≤ g1.toInt - 1) → (sn (R 6) v195.toInt) → (oM (R 43) 10 12 4 (v195.toInt + 1).toNat < (N_l832 : Int)) → ∀ ls : Array Slot, lv_has ls 4 [(2, .int v195), (0, .ref am), (1, .int p1)] → W p l e ({ frames := 10, cells := 0, slots := 0, locals := 630 }) s m args below meth c H locs 0 0 (MQ below (mz_w D cy ad am (fun F G R S => mz_IF true F ∧ mz_IG G ∧ mz_IR [] true R ∧ (∀ k : Nat, k ∉ ([34, 38, 41] : List Nat) → F k = Fa k) ∧ (∀ k : Nat, k ∉ ([3, 6, 43, 44, 45, 46] : List Nat) → R k = Ra k) ∧ (∀ k : Nat, k ∉ ([39, 40] : List Nat) → G k = Ga k) ∧ rK1 (Ra 3) (R 3))) args s 0 0 (mz_W ad am)) (F0 m 7 ls []) := by
    intro N_l832
    induction N_l832 with
    | zero => intro v195 v196 H locs F G R S hq0_l832 hq1_l832 hq2_l832 hq3_l832 hM hS hIF hIG hIR hFF hGG hRR hrel hg_0 hg_1 hod hsn hm_l832 ls hl; exfalso; have h9 := oM.nn (f := R 43) (b := 10) (c := 12) (n := 4) (v195.toInt + 1).toNat (fun j hj => by have := (hod j (by omega)).2; omega); omega
    | succ N_l832 ih_l832 =>
      intro v195 v196 H locs F G R S hq0_l832 hq1_l832 hq2_l832 hq3_l832 hM hS hIF hIG hIR hFF hGG hRR hrel hg_0 hg_1 hod hsn hm_l832 ls hl
      refine lv_iload_n hx hb dX13_play_7 rfl (lv_at hl 0 rfl) ?_
      refine lv_if_lt (tgt := 173) hx hb dX13_play_8 (by decide) (fun c9 => ?_) (fun c9 => ?_)
      · have hc833 : v195.toInt < 0 := (fi_lt rfl (show (0 : Int32).toInt = 0 by decide)).mp c9
        exact mz_vret hx hb hr hlocks ⟨hIF, hIG, hIR, hFF, hRR, hGG, hrel⟩ hM hS dX13_play_173
      · have hc833 : ¬ (v195.toInt < 0) := fun h9 => c9 ((fi_lt rfl (show (0 : Int32).toInt = 0 by decide)).mpr h9)
        refine lv_aload_n hx hb dX13_play_11 rfl (lv_at hl 1 rfl) ?_
        obtain ⟨f9, ef9⟩ : ∃ z : Nat → Int32, R 43 = z := ⟨_, rfl⟩
        have hod9 := hod
        rw [ef9] at hod9
        have hm9 := hm_l832
        rw [ef9] at hm9
        obtain ⟨f6, ef6⟩ : ∃ z : Nat → Int32, R 6 = z := ⟨_, rfl⟩
        have hsn9 := hsn
        rw [ef6] at hsn9
        refine mz_getR hx hb htl hown hK hM 43 (Nat.le_of_ble_eq_true rfl) (Nat.le_of_ble_eq_true rfl) (htl _ mw_227) (fun _ h9 => h9) dX13_play_12 ?_
        refine lv_iload_n hx hb dX13_play_15 rfl (lv_at hl 0 rfl) ?_
        refine lv_dup2_11 hx hb dX13_play_16 rfl rfl ?_
        refine mz_iald hx hb hK hM 43 (Nat.le_of_ble_eq_true rfl) rfl (nn := 5) rfl rfl (by omega) (by omega) dX13_play_17 (fun v834 e_v834 => ?_)
        have hq_v834 := tk_rng v834
        have hfk : f9 v195.toInt.toNat = v834 := by rw [← ef9]; exact e_v834
        have hdg : -1 ≤ v834.toInt ∧ v834.toInt ≤ g1.toInt - 1 := by have h9 := hod9 v195.toInt.toNat (by omega); rw [hfk] at h9; exact h9
        refine lv_iconst (v := 1) hx hb dX13_play_18 (by decide) ?_
        refine lv_iadd hx hb dX13_play_19 ?_
        refine tk_add rfl (show (1 : Int32).toInt = 1 by decide) (by omega) (by omega) (fun v835 h_v835 => ?_)
        refine mz_iast (x := v835) hx hb hK hD hM hS 43 (Nat.le_of_ble_eq_true rfl) rfl (nn := 5) rfl rfl (by omega) (by omega) dX13_play_20 (fun H locs R hM hS hw9 hj9 => ?_)
        have hIR := hIR.put hw9 hj9 trivial
        have hU1 : R 43 = upd f9 v195.toInt.toNat v835 := by rw [hw9, ef9]; rfl
        have ef6 := (hj9 6 (by decide)).trans ef6
        have hRR := mz_frp (K := [3, 6, 43, 44, 45, 46]) (Fa := Ra) hj9 hRR (by decide)
        have hrel : rK1 (Ra 3) (R 3) := (hj9 3 (by decide)) ▸ hrel
        have hg_0 : R 3 12 = _ := (congrFun (hj9 3 (by decide)) 12).trans hg_0
        have hg_1 : R 3 1 = _ := (congrFun (hj9 3 (by decide)) 1).trans hg_1
        have em836 : R 43 (v195 : Int32).toNatClampNeg = v835 := (congrFun hw9 _).trans pk_us
        refine lv_aload_n hx hb dX13_play_21 rfl (lv_at hl 1 rfl) ?_
        refine mz_getR hx hb htl hown hK hM 43 (Nat.le_of_ble_eq_true rfl) (Nat.le_of_ble_eq_true rfl) (htl _ mw_227) (fun _ h9 => h9) dX13_play_22 ?_
        refine lv_iload_n hx hb dX13_play_25 rfl (lv_at hl 0 rfl) ?_
        refine mz_iald hx hb hK hM 43 (Nat.le_of_ble_eq_true rfl) rfl (nn := 5) rfl rfl (by omega) (by omega) dX13_play_26 (fun v9 e9 => ?_)
        refine fx_ti (v := v835) (e9.symm.trans em836) ?_
        refine lv_aload_n hx hb dX13_play_27 rfl (lv_at hl 1 rfl) ?_
        refine mz_getR hx hb htl hown hK hM 3 (Nat.le_of_ble_eq_true rfl) (Nat.le_of_ble_eq_true rfl) (htl _ mw_188) (fun _ h9 => h9) dX13_play_28 ?_
        refine lv_iconst (v := 1) hx hb dX13_play_31 (by decide) ?_
        refine mz_iald hx hb hK hM 3 (Nat.le_of_ble_eq_true rfl) rfl (nn := 5560) rfl (I := 1) (by decide) (by decide) (by decide) dX13_play_32 (fun v9 e9 => ?_)
        refine fx_ti (v := g1) (e9.symm.trans (show R 3 (1 : Int32).toNatClampNeg = _ from hg_1)) ?_
        refine lv_icmp_ne (tgt := 75) hx hb dX13_play_33 (by decide) (fun c9 => ?_) (fun c9 => ?_)
        · have hc838 : ¬ (v835.toInt = g1.toInt) := fun h9 => c9 ((fi_eq rfl rfl).mpr h9)
          refine lv_aload_n hx hb dX13_play_75 rfl (lv_at hl 1 rfl) ?_
          refine lv_aload_n hx hb dX13_play_76 rfl (lv_at hl 1 rfl) ?_
          refine mz_getR hx hb htl hown hK hM 43 (Nat.le_of_ble_eq_true rfl) (Nat.le_of_ble_eq_true rfl) (htl _ mw_227) (fun _ h9 => h9) dX13_play_77 ?_
          refine lv_iload_n hx hb dX13_play_80 rfl (lv_at hl 0 rfl) ?_
          refine mz_iald hx hb hK hM 43 (Nat.le_of_ble_eq_true rfl) rfl (nn := 5) rfl rfl (by omega) (by omega) dX13_play_81 (fun v9 e9 => ?_)
          refine fx_ti (v := v835) (e9.symm.trans em836) ?_
          refine mz_Vi (As := [.int v835]) (rest := []) ⟨hx, hb, hml, hown, hts⟩ hK hM hS (k_X13_canSing l D cy ld ad am hD _ _ _ _ v835 hIF hIG hIR (by omega) (by omega)) ⟨callB_of 1 hts (wl_in mw_1326) rfl rfl rfl (htl _ mw_5) (htl _ mw_1323) hd_yX13_canSing ⟨(Nat.le_of_ble_eq_true rfl), (Nat.le_of_ble_eq_true rfl)⟩, htl _ mw_1324, htl _ mw_1325⟩ rfl hl.1 rfl (Nat.le_of_ble_eq_true rfl) dX13_play_82 ⟨(Nat.le_of_ble_eq_true rfl), (Nat.le_of_ble_eq_true rfl)⟩ (fun v839 H locs F G R S hpo hM hS => ?_)
          obtain ⟨hIF, hIG, hIR, hfr9, hrr9, hgr9, hpo840, hpo841, hpo842, hpo843⟩ := hpo
          have hq_v839 := tk_rng v839
          have hFF := mz_fr (K := [34, 38, 41]) (Fa := Fa) hfr9 hFF (by decide)
          have hRR := mz_fr (K := [3, 6, 43, 44, 45, 46]) (Fa := Ra) hrr9 hRR (by decide)
          have hGG := mz_fr (K := [39, 40]) (Fa := Ga) hgr9 hGG (by decide)
          have hrel : rK1 (Ra 3) (R 3) := hrel.trans (rK1.refl (hrr9 3 (by decide)))
          have em836 : R 43 (v195 : Int32).toNatClampNeg = _ := (congrFun (hrr9 43 (by decide)) _).trans em836
          have hg_0 : R 3 12 = _ := (congrFun (hrr9 3 (by decide)) 12).trans hg_0
          have hg_1 : R 3 1 = _ := (congrFun (hrr9 3 (by decide)) 1).trans hg_1
          have hU1 := (hrr9 43 (by decide)).trans hU1
          have ef6 := (hrr9 6 (by decide)).trans ef6
          refine lv_if_eq (tgt := 7) hx hb dX13_play_85 (by decide) (fun c9 => ?_) (fun c9 => ?_)
          · have hc845 : v839.toInt = 0 := (fi_eq rfl (show (0 : Int32).toInt = 0 by decide)).mp c9
            exact ih_l832 v195 v196 _ _ _ _ _ _ (by omega) (by omega) (by omega) (by omega) hM hS hIF hIG hIR hFF hGG hRR hrel hg_0 hg_1 (od_r1 hod9 hU1 (by omega) (by omega)) (sn.le hsn9 ef6 (by omega)) (od_st hm9 (by omega) hU1 (by rw [hfk]; omega) (by decide)) _ (lv_sub hl [0, 1, 2] rfl)
          · have hc845 : ¬ (v839.toInt = 0) := fun h9 => c9 ((fi_eq rfl (show (0 : Int32).toInt = 0 by decide)).mpr h9)
            refine lv_aload_n hx hb dX13_play_88 rfl (lv_at hl 1 rfl) ?_
            refine lv_aload_n hx hb dX13_play_89 rfl (lv_at hl 1 rfl) ?_
            refine mz_getR hx hb htl hown hK hM 43 (Nat.le_of_ble_eq_true rfl) (Nat.le_of_ble_eq_true rfl) (htl _ mw_227) (fun _ h9 => h9) dX13_play_90 ?_
            refine lv_iload_n hx hb dX13_play_93 rfl (lv_at hl 0 rfl) ?_
            refine mz_iald hx hb hK hM 43 (Nat.le_of_ble_eq_true rfl) rfl (nn := 5) rfl rfl (by omega) (by omega) dX13_play_94 (fun v9 e9 => ?_)
            refine fx_ti (v := v835) (e9.symm.trans em836) ?_
            obtain ⟨v847, hf846⟩ : ∃ z : Int32, R 3 13 = z := ⟨_, rfl⟩
            have hq_v847 := tk_rng v847
            have hr_v847 : (-1) ≤ v847.toInt ∧ v847.toInt ≤ 7 := by have h9 := hIR.d; unfold dO at h9; rw [hf846] at h9; omega
            have hti_847 : v196.toInt ≠ -1 → v847.toInt ≠ -1 := by have h9 := hIR.d.2.2.2.2.2; rw [hg_0, hf846] at h9; exact fun h8 => (h9 h8).1
            have hwk_851 : 0 ≤ v847.toInt := by omega
            obtain ⟨v850, hf849⟩ : ∃ z : Int32, R 3 15 = z := ⟨_, rfl⟩
            have hq_v850 := tk_rng v850
            have hr_v850 : (-1) ≤ v850.toInt ∧ v850.toInt ≤ 11 := by have h9 := hIR.d; unfold dO at h9; rw [hf849] at h9; omega
            have hti_851 : v196.toInt ≠ -1 → v850.toInt ≠ -1 := by have h9 := hIR.d.2.2.2.2.2; rw [hg_0, hf849] at h9; exact fun h8 => (h9 h8).2.1
            have hwk_855 : 0 ≤ v850.toInt := by omega
            obtain ⟨v854, hf853⟩ : ∃ z : Int32, R 3 16 = z := ⟨_, rfl⟩
            have hq_v854 := tk_rng v854
            have hr_v854 : (-1) ≤ v854.toInt ∧ v854.toInt ≤ 7 := by have h9 := hIR.d; unfold dO at h9; rw [hf853] at h9; omega
            have hti_855 : v196.toInt ≠ -1 → v854.toInt ≠ -1 := by have h9 := hIR.d.2.2.2.2.2; rw [hg_0, hf853] at h9; exact fun h8 => (h9 h8).2.2
            have hwk_858 : 0 ≤ v854.toInt := by omega
            refine mz_Vi (As := [.int v835]) (rest := []) ⟨hx, hb, hml, hown, hts⟩ hK hM hS (k_X13_singIt l D cy ld ad am hD _ _ _ _ v835 v196 v847 v850 v854 hIF hIG hIR hg_0 hf846 hf849 hf853 (by omega) (by omega) (by omega)) ⟨callB_of 1 hts (wl_in mw_1116) rfl rfl rfl (htl _ mw_5) (htl _ mw_1113) hd_yX13_singIt ⟨(Nat.le_of_ble_eq_true rfl), (Nat.le_of_ble_eq_true rfl)⟩, htl _ mw_1114, htl _ mw_1115⟩ rfl hl.1 rfl (Nat.le_of_ble_eq_true rfl) dX13_play_95 ⟨(Nat.le_of_ble_eq_true rfl), (Nat.le_of_ble_eq_true rfl)⟩ (fun v857 H locs F G R S hpo hM hS => ?_)
            obtain ⟨hIF, hIG, hIR, hfr9, hrr9, hgr9, hrel9, hpo859, hpo860, hpo861, hpo862, hpo863, hpo864⟩ := hpo
            have hq_v857 := tk_rng v857
            have hFF := mz_fr (K := [34, 38, 41]) (Fa := Fa) hfr9 hFF (by decide)
            have hRR := mz_fr (K := [3, 6, 43, 44, 45, 46]) (Fa := Ra) hrr9 hRR (by decide)
            have hGG := mz_fr (K := [39, 40]) (Fa := Ga) hgr9 hGG (by decide)
            have hrel := hrel.trans hrel9.k1
            have em836 : R 43 (v195 : Int32).toNatClampNeg = _ := (congrFun (hrr9 43 (by decide)) _).trans em836
            have hg_1 : R 3 1 = _ := (hrel9 1 (by omega)).trans hg_1
            obtain ⟨v867, hf866⟩ : ∃ z : Int32, R 3 12 = z := ⟨_, rfl⟩
            have hq_v867 := tk_rng v867
            rw [hf866] at hpo861 hpo862 hpo863 hpo864
            have hr_v867 : (-1) ≤ v867.toInt ∧ v867.toInt ≤ 7 := by have h9 := hIR.d; unfold dO at h9; rw [hf866] at h9; omega
            obtain ⟨v869, hf868⟩ : ∃ z : Int32, R 3 15 = z := ⟨_, rfl⟩
            have hq_v869 := tk_rng v869
            rw [hf868] at hpo861 hpo862 hpo863 hpo864
            have hr_v869 : (-1) ≤ v869.toInt ∧ v869.toInt ≤ 11 := by have h9 := hIR.d; unfold dO at h9; rw [hf868] at h9; omega
            have hti_869 : v867.toInt ≠ -1 → v869.toInt ≠ -1 := by have h9 := hIR.d.2.2.2.2.2; rw [hf866, hf868] at h9; exact fun h8 => (h9 h8).2.1
            obtain ⟨v872, hf871⟩ : ∃ z : Int32, R 3 16 = z := ⟨_, rfl⟩
            have hq_v872 := tk_rng v872
            rw [hf871] at hpo864
            have hr_v872 : (-1) ≤ v872.toInt ∧ v872.toInt ≤ 7 := by have h9 := hIR.d; unfold dO at h9; rw [hf871] at h9; omega
            have hti_872 : v867.toInt ≠ -1 → v872.toInt ≠ -1 := by have h9 := hIR.d.2.2.2.2.2; rw [hf866, hf871] at h9; exact fun h8 => (h9 h8).2.2
            have hU1 := (hrr9 43 (by decide)).trans hU1
            have ef6 := (hrr9 6 (by decide)).trans ef6
            refine lv_pop hx hb dX13_play_98 rfl ?_
            refine lv_aload_n hx hb dX13_play_99 rfl (lv_at hl 1 rfl) ?_
            refine mz_getI hx hb htl hown hK hM 41 (Nat.le_of_ble_eq_true rfl) rfl (htl _ mw_1117) (fun _ h9 => h9) dX13_play_100 (fun v875 hf874 => ?_)
            have hq_v875 := tk_rng v875
            have hr_v875 : (-1) ≤ v875.toInt ∧ v875.toInt ≤ 7 := hIF.at hf874
            refine lv_iconst (v := (-1)) hx hb dX13_play_103 (by decide) ?_
            refine lv_icmp_ne (tgt := 132) hx hb dX13_play_104 (by decide) (fun c9 => ?_) (fun c9 => ?_)
            · have hc876 : ¬ (v875.toInt = (-1)) := fun h9 => c9 ((fi_eq rfl (show ((-1) : Int32).toInt = (-1) by decide)).mpr h9)
              refine lv_aload_n hx hb dX13_play_132 rfl (lv_at hl 1 rfl) ?_
              refine mz_getI hx hb htl hown hK hM 41 (Nat.le_of_ble_eq_true rfl) rfl (htl _ mw_1117) (fun _ h9 => h9) dX13_play_133 (fun v9 e9 => ?_)
              refine fx_ti (v := v875) (e9.symm.trans hf874) ?_
              refine lv_iconst (v := (-1)) hx hb dX13_play_136 (by decide) ?_
              refine lv_icmp_ne (tgt := 144) hx hb dX13_play_137 (by decide) (fun _ => ?_) (fun c9 => absurd (show v875.toInt = (-1) from (fi_eq rfl (show ((-1) : Int32).toInt = (-1) by decide)).mp c9) (by omega))
              refine lv_bipush (v := 10) hx hb dX13_play_144 (by decide) ?_
              refine lv_iload_n hx hb dX13_play_146 rfl (lv_at hl 0 rfl) ?_
              refine lv_iconst (v := 1) hx hb dX13_play_147 (by decide) ?_
              refine lv_iadd hx hb dX13_play_148 ?_
              refine tk_add rfl (show (1 : Int32).toInt = 1 by decide) (by omega) (by omega) (fun v877 h_v877 => ?_)
              refine lv_imul hx hb dX13_play_149 ?_
              refine tk_mul (show (10 : Int32).toInt = 10 by decide) rfl (by omega) (by omega) (fun v878 h_v878 => ?_)
              refine lv_aload_n hx hb dX13_play_150 rfl (lv_at hl 1 rfl) ?_
              refine mz_getI hx hb htl hown hK hM 41 (Nat.le_of_ble_eq_true rfl) rfl (htl _ mw_1117) (fun _ h9 => h9) dX13_play_151 (fun v9 e9 => ?_)
              refine fx_ti (v := v875) (e9.symm.trans hf874) ?_
              refine lv_iadd hx hb dX13_play_154 ?_
              refine tk_add rfl rfl (by omega) (by omega) (fun v879 h_v879 => ?_)
              refine lv_istore_n (lv' := [(3, .int v879), (2, .int v195), (0, .ref am), (1, .int p1)]) hx hb dX13_play_155 rfl hl (by decide) rfl (fun ls hl => ?_)
              refine lv_aload_n hx hb dX13_play_156 rfl (lv_at hl 2 rfl) ?_
              refine lv_bipush (v := 16) hx hb dX13_play_157 (by decide) ?_
              refine lv_iload_n hx hb dX13_play_159 rfl (lv_at hl 1 rfl) ?_
              refine lv_iadd hx hb dX13_play_160 ?_
              refine tk_add (show (16 : Int32).toInt = 16 by decide) rfl (by omega) (by omega) (fun v880 h_v880 => ?_)
              refine mz_Vv (As := [.int v880]) (rest := []) ⟨hx, hb, hml, hown, hts⟩ hK hM hS (k_X13_putBack_x l D cy ld ad am hD _ _ _ _ v880 hIF hIG hIR (by omega) (by omega)) ⟨callB_of 1 hts (wl_in mw_1162) rfl rfl rfl (htl _ mw_5) (htl _ mw_1159) hd_yX13_putBack ⟨(Nat.le_of_ble_eq_true rfl), (Nat.le_of_ble_eq_true rfl)⟩, htl _ mw_1160, htl _ mw_1161⟩ rfl hl.1 rfl (Nat.le_of_ble_eq_true rfl) dX13_play_161 ⟨(Nat.le_of_ble_eq_true rfl), (Nat.le_of_ble_eq_true rfl)⟩ (fun H locs F G R S hpo hM hS => ?_)
              obtain ⟨hIF, hIG, hIR, hfr9, hrr9, hgr9, hrel9, hx881⟩ := hpo
              have hFF := mz_fr (K := [34, 38, 41]) (Fa := Fa) hfr9 hFF (by decide)
              have hRR := mz_fr (K := [3, 6, 43, 44, 45, 46]) (Fa := Ra) hrr9 hRR (by decide)
              have hGG := mz_fr (K := [39, 40]) (Fa := Ga) hgr9 hGG (by decide)
              have hrel := hrel.trans hrel9
              have em836 : R 43 (v195 : Int32).toNatClampNeg = _ := (congrFun (hrr9 43 (by decide)) _).trans em836
              have hg_1 : R 3 1 = _ := (hrel9 1 (by omega)).trans hg_1
              have hf874 := (hfr9 41 (by decide)).trans hf874
              have hU1 := (hrr9 43 (by decide)).trans hU1
              have hpb : 0 ≤ (R 3 12).toInt := sn.back hsn9 (by rw [← ef6]; exact hx881) (by omega) (by omega)
              have ef6 := (hrr9 6 (by decide)).trans ef6
              obtain ⟨v884, hf883⟩ : ∃ z : Int32, R 3 12 = z := ⟨_, rfl⟩
              have hq_v884 := tk_rng v884
              have hr_v884 : (-1) ≤ v884.toInt ∧ v884.toInt ≤ 7 := by have h9 := hIR.d; unfold dO at h9; rw [hf883] at h9; omega
              have hd_v884 : 0 ≤ v884.toInt := by rw [← hf883]; exact hpb
              refine lv_aload_n hx hb dX13_play_164 rfl (lv_at hl 2 rfl) ?_
              refine lv_iload_n hx hb dX13_play_165 rfl (lv_at hl 1 rfl) ?_
              refine lv_iload_n hx hb dX13_play_166 rfl (lv_at hl 0 rfl) ?_
              refine mz_Vv (As := [.int v195, .int v879]) (rest := []) ⟨hx, hb, hml, hown, hts⟩ hK hM hS (k_X13_weigh l D cy ld ad am hD _ _ _ _ v195 v879 hIF hIG hIR (by omega) (by omega)) ⟨callB_of 2 hts (wl_in mw_1319) rfl rfl rfl (htl _ mw_5) (htl _ mw_1316) hd_yX13_weigh ⟨(Nat.le_of_ble_eq_true rfl), (Nat.le_of_ble_eq_true rfl)⟩, htl _ mw_1317, htl _ mw_1318⟩ rfl hl.1 rfl (Nat.le_of_ble_eq_true rfl) dX13_play_167 ⟨(Nat.le_of_ble_eq_true rfl), (Nat.le_of_ble_eq_true rfl)⟩ (fun H locs F G R S hpo hM hS => ?_)
              obtain ⟨hIF, hIG, hIR, hfr9, hrr9, hgr9⟩ := hpo
              have hFF := mz_fr (K := [34, 38, 41]) (Fa := Fa) hfr9 hFF (by decide)
              have hRR := mz_fr (K := [3, 6, 43, 44, 45, 46]) (Fa := Ra) hrr9 hRR (by decide)
              have hGG := mz_fr (K := [39, 40]) (Fa := Ga) hgr9 hGG (by decide)
              have hrel : rK1 (Ra 3) (R 3) := hrel.trans (rK1.refl (hrr9 3 (by decide)))
              have em836 : R 43 (v195 : Int32).toNatClampNeg = _ := (congrFun (hrr9 43 (by decide)) _).trans em836
              have hg_1 : R 3 1 = _ := (congrFun (hrr9 3 (by decide)) 1).trans hg_1
              have hf874 := (hfr9 41 (by decide)).trans hf874
              have hf883 : R 3 12 = _ := (congrFun (hrr9 3 (by decide)) 12).trans hf883
              have hU1 := (hrr9 43 (by decide)).trans hU1
              have ef6 := (hrr9 6 (by decide)).trans ef6
              refine lv_goto (tgt := 7) hx hb dX13_play_170 (by decide) ?_
              exact ih_l832 v195 v884 _ _ _ _ _ _ (by omega) (by omega) (by omega) (by omega) hM hS hIF hIG hIR hFF hGG hRR hrel hf883 hg_1 (od_r1 hod9 hU1 (by omega) (by omega)) (sn.le hsn9 ef6 (by omega)) (od_st hm9 (by omega) hU1 (by rw [hfk]; omega) (by decide)) _ (lv_sub hl [1, 2, 3] rfl)
            · have hc876 : v875.toInt = (-1) := (fi_eq rfl (show ((-1) : Int32).toInt = (-1) by decide)).mp c9
              refine lv_aload_n hx hb dX13_play_107 rfl (lv_at hl 1 rfl) ?_
              refine mz_Vj (As := []) (rest := []) ⟨hx, hb, hml, hown, hts⟩ hK hM hS (k_X13_isDuel l D cy ld ad am hD _ _ _ _ v867 (hIF.weak) hIG hIR hf866) ⟨callB_of 0 hts (wl_in mw_1071) rfl rfl rfl (htl _ mw_5) (htl _ mw_1068) hd_yX13_isDuel ⟨(Nat.le_of_ble_eq_true rfl), (Nat.le_of_ble_eq_true rfl)⟩, htl _ mw_1069, htl _ mw_1070⟩ rfl hl.1 rfl (Nat.le_of_ble_eq_true rfl) dX13_play_108 ⟨(Nat.le_of_ble_eq_true rfl), (Nat.le_of_ble_eq_true rfl)⟩ (fun v886 H locs hpo hM hS => ?_)
              obtain ⟨hpo887, hpo888, hpo889, hpo890, hpo891, hpo892⟩ := hpo
              have hq_v886 := tk_rng v886
              refine lv_if_eq (tgt := 132) hx hb dX13_play_111 (by decide) (fun c9 => ?_) (fun c9 => ?_)
              · have hc894 : v886.toInt = 0 := (fi_eq rfl (show (0 : Int32).toInt = 0 by decide)).mp c9
                have hwk_895 : v867.toInt ≤ (-1) := by omega
                refine lv_aload_n hx hb dX13_play_132 rfl (lv_at hl 1 rfl) ?_
                refine mz_getI hx hb htl hown hK hM 41 (Nat.le_of_ble_eq_true rfl) rfl (htl _ mw_1117) (fun _ h9 => h9) dX13_play_133 (fun v9 e9 => ?_)
                refine fx_ti (v := v875) (e9.symm.trans hf874) ?_
                refine lv_iconst (v := (-1)) hx hb dX13_play_136 (by decide) ?_
                refine lv_icmp_ne (tgt := 144) hx hb dX13_play_137 (by decide) (fun c9 => absurd ((fi_eq rfl (show ((-1) : Int32).toInt = (-1) by decide)).mpr (show v875.toInt = (-1) by omega)) c9) (fun _ => ?_)
                refine lv_iconst (v := 0) hx hb dX13_play_140 (by decide) ?_
                refine lv_goto (tgt := 155) hx hb dX13_play_141 (by decide) ?_
                refine lv_istore_n (lv' := [(3, .int 0), (2, .int v195), (0, .ref am), (1, .int p1)]) hx hb dX13_play_155 rfl hl (by decide) rfl (fun ls hl => ?_)
                refine lv_aload_n hx hb dX13_play_156 rfl (lv_at hl 2 rfl) ?_
                refine lv_bipush (v := 16) hx hb dX13_play_157 (by decide) ?_
                refine lv_iload_n hx hb dX13_play_159 rfl (lv_at hl 1 rfl) ?_
                refine lv_iadd hx hb dX13_play_160 ?_
                refine tk_add (show (16 : Int32).toInt = 16 by decide) rfl (by omega) (by omega) (fun v896 h_v896 => ?_)
                refine mz_Vv (As := [.int v896]) (rest := []) ⟨hx, hb, hml, hown, hts⟩ hK hM hS (k_X13_putBack_x l D cy ld ad am hD _ _ _ _ v896 hIF hIG hIR (by omega) (by omega)) ⟨callB_of 1 hts (wl_in mw_1162) rfl rfl rfl (htl _ mw_5) (htl _ mw_1159) hd_yX13_putBack ⟨(Nat.le_of_ble_eq_true rfl), (Nat.le_of_ble_eq_true rfl)⟩, htl _ mw_1160, htl _ mw_1161⟩ rfl hl.1 rfl (Nat.le_of_ble_eq_true rfl) dX13_play_161 ⟨(Nat.le_of_ble_eq_true rfl), (Nat.le_of_ble_eq_true rfl)⟩ (fun H locs F G R S hpo hM hS => ?_)
                obtain ⟨hIF, hIG, hIR, hfr9, hrr9, hgr9, hrel9, hx897⟩ := hpo
                have hFF := mz_fr (K := [34, 38, 41]) (Fa := Fa) hfr9 hFF (by decide)
                have hRR := mz_fr (K := [3, 6, 43, 44, 45, 46]) (Fa := Ra) hrr9 hRR (by decide)
                have hGG := mz_fr (K := [39, 40]) (Fa := Ga) hgr9 hGG (by decide)
                have hrel := hrel.trans hrel9
                have em836 : R 43 (v195 : Int32).toNatClampNeg = _ := (congrFun (hrr9 43 (by decide)) _).trans em836
                have hg_1 : R 3 1 = _ := (hrel9 1 (by omega)).trans hg_1
                have hf874 := (hfr9 41 (by decide)).trans hf874
                have hU1 := (hrr9 43 (by decide)).trans hU1
                have hpb : 0 ≤ (R 3 12).toInt := sn.back hsn9 (by rw [← ef6]; exact hx897) (by omega) (by omega)
                have ef6 := (hrr9 6 (by decide)).trans ef6
                obtain ⟨v900, hf899⟩ : ∃ z : Int32, R 3 12 = z := ⟨_, rfl⟩
                have hq_v900 := tk_rng v900
                have hr_v900 : (-1) ≤ v900.toInt ∧ v900.toInt ≤ 7 := by have h9 := hIR.d; unfold dO at h9; rw [hf899] at h9; omega
                have hd_v900 : 0 ≤ v900.toInt := by rw [← hf899]; exact hpb
                refine lv_aload_n hx hb dX13_play_164 rfl (lv_at hl 2 rfl) ?_
                refine lv_iload_n hx hb dX13_play_165 rfl (lv_at hl 1 rfl) ?_
                refine lv_iload_n hx hb dX13_play_166 rfl (lv_at hl 0 rfl) ?_
                have hk_0 : (0 : Int32).toInt = 0 := by decide
                refine mz_Vv (As := [.int v195, .int 0]) (rest := []) ⟨hx, hb, hml, hown, hts⟩ hK hM hS (k_X13_weigh l D cy ld ad am hD _ _ _ _ v195 0 hIF hIG hIR (by omega) (by omega)) ⟨callB_of 2 hts (wl_in mw_1319) rfl rfl rfl (htl _ mw_5) (htl _ mw_1316) hd_yX13_weigh ⟨(Nat.le_of_ble_eq_true rfl), (Nat.le_of_ble_eq_true rfl)⟩, htl _ mw_1317, htl _ mw_1318⟩ rfl hl.1 rfl (Nat.le_of_ble_eq_true rfl) dX13_play_167 ⟨(Nat.le_of_ble_eq_true rfl), (Nat.le_of_ble_eq_true rfl)⟩ (fun H locs F G R S hpo hM hS => ?_)
                obtain ⟨hIF, hIG, hIR, hfr9, hrr9, hgr9⟩ := hpo
                have hFF := mz_fr (K := [34, 38, 41]) (Fa := Fa) hfr9 hFF (by decide)
                have hRR := mz_fr (K := [3, 6, 43, 44, 45, 46]) (Fa := Ra) hrr9 hRR (by decide)
                have hGG := mz_fr (K := [39, 40]) (Fa := Ga) hgr9 hGG (by decide)
                have hrel : rK1 (Ra 3) (R 3) := hrel.trans (rK1.refl (hrr9 3 (by decide)))
                have em836 : R 43 (v195 : Int32).toNatClampNeg = _ := (congrFun (hrr9 43 (by decide)) _).trans em836
                have hg_1 : R 3 1 = _ := (congrFun (hrr9 3 (by decide)) 1).trans hg_1
                have hf874 := (hfr9 41 (by decide)).trans hf874
                have hf899 : R 3 12 = _ := (congrFun (hrr9 3 (by decide)) 12).trans hf899
                have hU1 := (hrr9 43 (by decide)).trans hU1
                have ef6 := (hrr9 6 (by decide)).trans ef6
                refine lv_goto (tgt := 7) hx hb dX13_play_170 (by decide) ?_
                exact ih_l832 v195 v900 _ _ _ _ _ _ (by omega) (by omega) (by omega) (by omega) hM hS hIF hIG hIR hFF hGG hRR hrel hf899 hg_1 (od_r1 hod9 hU1 (by omega) (by omega)) (sn.le hsn9 ef6 (by omega)) (od_st hm9 (by omega) hU1 (by rw [hfk]; omega) (by decide)) _ (lv_sub hl [1, 2, 3] rfl)
              · have hc894 : ¬ (v886.toInt = 0) := fun h9 => c9 ((fi_eq rfl (show (0 : Int32).toInt = 0 by decide)).mpr h9)
                have hwk_902 : 0 ≤ v867.toInt := by omega
                have hwk_903 : 0 ≤ v869.toInt := by omega
                have hwk_904 : 0 ≤ v872.toInt := by omega
                have hwk_905 : (-1) * v196.toInt + v867.toInt = 0 ∧ 0 ≤ (-1) * v850.toInt + v869.toInt := by omega
                refine lv_iload_n hx hb dX13_play_114 rfl (lv_at hl 0 rfl) ?_
                refine lv_iload_n hx hb dX13_play_115 rfl (lv_at hl 2 rfl) ?_
                refine lv_iconst (v := 1) hx hb dX13_play_116 (by decide) ?_
                refine lv_isub hx hb dX13_play_117 ?_
                refine tk_sub rfl (show (1 : Int32).toInt = 1 by decide) (by omega) (by omega) (fun v906 h_v906 => ?_)
                refine lv_icmp_ge (tgt := 132) hx hb dX13_play_118 (by decide) (fun c9 => ?_) (fun c9 => ?_)
                · have hc907 : v906.toInt ≤ v195.toInt := (fi_le rfl rfl).mp c9
                  refine lv_aload_n hx hb dX13_play_132 rfl (lv_at hl 1 rfl) ?_
                  refine mz_getI hx hb htl hown hK hM 41 (Nat.le_of_ble_eq_true rfl) rfl (htl _ mw_1117) (fun _ h9 => h9) dX13_play_133 (fun v9 e9 => ?_)
                  refine fx_ti (v := v875) (e9.symm.trans hf874) ?_
                  refine lv_iconst (v := (-1)) hx hb dX13_play_136 (by decide) ?_
                  refine lv_icmp_ne (tgt := 144) hx hb dX13_play_137 (by decide) (fun c9 => absurd ((fi_eq rfl (show ((-1) : Int32).toInt = (-1) by decide)).mpr (show v875.toInt = (-1) by omega)) c9) (fun _ => ?_)
                  refine lv_iconst (v := 0) hx hb dX13_play_140 (by decide) ?_
                  refine lv_goto (tgt := 155) hx hb dX13_play_141 (by decide) ?_
                  refine lv_istore_n (lv' := [(3, .int 0), (2, .int v195), (0, .ref am), (1, .int p1)]) hx hb dX13_play_155 rfl hl (by decide) rfl (fun ls hl => ?_)
                  refine lv_aload_n hx hb dX13_play_156 rfl (lv_at hl 2 rfl) ?_
                  refine lv_bipush (v := 16) hx hb dX13_play_157 (by decide) ?_
                  refine lv_iload_n hx hb dX13_play_159 rfl (lv_at hl 1 rfl) ?_
                  refine lv_iadd hx hb dX13_play_160 ?_
                  refine tk_add (show (16 : Int32).toInt = 16 by decide) rfl (by omega) (by omega) (fun v908 h_v908 => ?_)
                  refine mz_Vv (As := [.int v908]) (rest := []) ⟨hx, hb, hml, hown, hts⟩ hK hM hS (k_X13_putBack_x l D cy ld ad am hD _ _ _ _ v908 hIF hIG hIR (by omega) (by omega)) ⟨callB_of 1 hts (wl_in mw_1162) rfl rfl rfl (htl _ mw_5) (htl _ mw_1159) hd_yX13_putBack ⟨(Nat.le_of_ble_eq_true rfl), (Nat.le_of_ble_eq_true rfl)⟩, htl _ mw_1160, htl _ mw_1161⟩ rfl hl.1 rfl (Nat.le_of_ble_eq_true rfl) dX13_play_161 ⟨(Nat.le_of_ble_eq_true rfl), (Nat.le_of_ble_eq_true rfl)⟩ (fun H locs F G R S hpo hM hS => ?_)
                  obtain ⟨hIF, hIG, hIR, hfr9, hrr9, hgr9, hrel9, hx909⟩ := hpo
                  have hFF := mz_fr (K := [34, 38, 41]) (Fa := Fa) hfr9 hFF (by decide)
                  have hRR := mz_fr (K := [3, 6, 43, 44, 45, 46]) (Fa := Ra) hrr9 hRR (by decide)
                  have hGG := mz_fr (K := [39, 40]) (Fa := Ga) hgr9 hGG (by decide)
                  have hrel := hrel.trans hrel9
                  have em836 : R 43 (v195 : Int32).toNatClampNeg = _ := (congrFun (hrr9 43 (by decide)) _).trans em836
                  have hg_1 : R 3 1 = _ := (hrel9 1 (by omega)).trans hg_1
                  have hf874 := (hfr9 41 (by decide)).trans hf874
                  have hU1 := (hrr9 43 (by decide)).trans hU1
                  have hpb : 0 ≤ (R 3 12).toInt := sn.back hsn9 (by rw [← ef6]; exact hx909) (by omega) (by omega)
                  have ef6 := (hrr9 6 (by decide)).trans ef6
                  obtain ⟨v912, hf911⟩ : ∃ z : Int32, R 3 12 = z := ⟨_, rfl⟩
                  have hq_v912 := tk_rng v912
                  have hr_v912 : (-1) ≤ v912.toInt ∧ v912.toInt ≤ 7 := by have h9 := hIR.d; unfold dO at h9; rw [hf911] at h9; omega
                  have hd_v912 : 0 ≤ v912.toInt := by rw [← hf911]; exact hpb
                  refine lv_aload_n hx hb dX13_play_164 rfl (lv_at hl 2 rfl) ?_
                  refine lv_iload_n hx hb dX13_play_165 rfl (lv_at hl 1 rfl) ?_
                  refine lv_iload_n hx hb dX13_play_166 rfl (lv_at hl 0 rfl) ?_
                  have hk_0 : (0 : Int32).toInt = 0 := by decide
                  refine mz_Vv (As := [.int v195, .int 0]) (rest := []) ⟨hx, hb, hml, hown, hts⟩ hK hM hS (k_X13_weigh l D cy ld ad am hD _ _ _ _ v195 0 hIF hIG hIR (by omega) (by omega)) ⟨callB_of 2 hts (wl_in mw_1319) rfl rfl rfl (htl _ mw_5) (htl _ mw_1316) hd_yX13_weigh ⟨(Nat.le_of_ble_eq_true rfl), (Nat.le_of_ble_eq_true rfl)⟩, htl _ mw_1317, htl _ mw_1318⟩ rfl hl.1 rfl (Nat.le_of_ble_eq_true rfl) dX13_play_167 ⟨(Nat.le_of_ble_eq_true rfl), (Nat.le_of_ble_eq_true rfl)⟩ (fun H locs F G R S hpo hM hS => ?_)
                  obtain ⟨hIF, hIG, hIR, hfr9, hrr9, hgr9⟩ := hpo
                  have hFF := mz_fr (K := [34, 38, 41]) (Fa := Fa) hfr9 hFF (by decide)
                  have hRR := mz_fr (K := [3, 6, 43, 44, 45, 46]) (Fa := Ra) hrr9 hRR (by decide)
                  have hGG := mz_fr (K := [39, 40]) (Fa := Ga) hgr9 hGG (by decide)
                  have hrel : rK1 (Ra 3) (R 3) := hrel.trans (rK1.refl (hrr9 3 (by decide)))
                  have em836 : R 43 (v195 : Int32).toNatClampNeg = _ := (congrFun (hrr9 43 (by decide)) _).trans em836
                  have hg_1 : R 3 1 = _ := (congrFun (hrr9 3 (by decide)) 1).trans hg_1
                  have hf874 := (hfr9 41 (by decide)).trans hf874
                  have hf911 : R 3 12 = _ := (congrFun (hrr9 3 (by decide)) 12).trans hf911
                  have hU1 := (hrr9 43 (by decide)).trans hU1
                  have ef6 := (hrr9 6 (by decide)).trans ef6
                  refine lv_goto (tgt := 7) hx hb dX13_play_170 (by decide) ?_
                  exact ih_l832 v195 v912 _ _ _ _ _ _ (by omega) (by omega) (by omega) (by omega) hM hS hIF hIG hIR hFF hGG hRR hrel hf911 hg_1 (od_r1 hod9 hU1 (by omega) (by omega)) (sn.le hsn9 ef6 (by omega)) (od_st hm9 (by omega) hU1 (by rw [hfk]; omega) (by decide)) _ (lv_sub hl [1, 2, 3] rfl)
                · have hc907 : ¬ (v906.toInt ≤ v195.toInt) := fun h9 => c9 ((fi_le rfl rfl).mpr h9)
                  obtain ⟨v914, h_v914, e_v914⟩ := tk_inc v195 1 (by decide) (by omega) (by omega)
                  refine lv_iinc (v := v914) (lv' := [(2, .int v914), (0, .ref am), (1, .int p1)]) hx hb dX13_play_121 hl (k := 0) rfl e_v914 (by decide) rfl (fun ls hl => ?_)
                  refine lv_aload_n hx hb dX13_play_124 rfl (lv_at hl 1 rfl) ?_
                  refine lv_iload_n hx hb dX13_play_125 rfl (lv_at hl 0 rfl) ?_
                  have hd12 : 0 ≤ (R 3 12).toInt := by rw [hf866]; omega
                  refine mz_Vv (As := [.int v914]) (rest := []) ⟨hx, hb, hml, hown, hts⟩ hK hM hS (k_X13_openLevel_x l D cy ld ad am hD _ _ _ _ v914 hIF hIG hIR (by omega) (by omega)) ⟨callB_of 1 hts (wl_in mw_1315) rfl rfl rfl (htl _ mw_5) (htl _ mw_1312) hd_yX13_openLevel ⟨(Nat.le_of_ble_eq_true rfl), (Nat.le_of_ble_eq_true rfl)⟩, htl _ mw_1313, htl _ mw_1314⟩ rfl hl.1 rfl (Nat.le_of_ble_eq_true rfl) dX13_play_126 ⟨(Nat.le_of_ble_eq_true rfl), (Nat.le_of_ble_eq_true rfl)⟩ (fun H locs F G R S hpo hM hS => ?_)
                  obtain ⟨hIF, hIG, hIR, hfr9, hrr9, hgr9, hx915, hx916⟩ := hpo
                  have hFF := mz_fr (K := [34, 38, 41]) (Fa := Fa) hfr9 hFF (by decide)
                  have hRR := mz_fr (K := [3, 6, 43, 44, 45, 46]) (Fa := Ra) hrr9 hRR (by decide)
                  have hGG := mz_fr (K := [39, 40]) (Fa := Ga) hgr9 hGG (by decide)
                  have hrel : rK1 (Ra 3) (R 3) := hrel.trans (rK1.refl (hrr9 3 (by decide)))
                  have hg_1 : R 3 1 = _ := (congrFun (hrr9 3 (by decide)) 1).trans hg_1
                  have hf866 : R 3 12 = _ := (congrFun (hrr9 3 (by decide)) 12).trans hf866
                  have hf868 : R 3 15 = _ := (congrFun (hrr9 3 (by decide)) 15).trans hf868
                  have hf871 : R 3 16 = _ := (congrFun (hrr9 3 (by decide)) 16).trans hf871
                  have hf874 := (hfr9 41 (by decide)).trans hf874
                  have hk_m1 : ((-1) : Int32).toInt = (-1) := by decide
                  have hU2 : R 43 = upd (upd f9 v195.toInt.toNat v835) (v195.toInt.toNat + 1) (-1) := by rw [hx915, hU1, show v914.toInt.toNat = v195.toInt.toNat + 1 by omega]
                  have hsn1 : sn (R 6) v914.toInt := sn.up (k := v195.toInt) (n := 16 + v914.toInt.toNat) hsn9 (by omega) (by rw [← ef6]; exact hx916) (by omega) hd12
                  refine lv_goto (tgt := 7) hx hb dX13_play_129 (by decide) ?_
                  exact ih_l832 v914 v867 _ _ _ _ _ _ (by omega) (by omega) (by omega) (by omega) hM hS hIF hIG hIR hFF hGG hRR hrel hf866 hg_1 (od_r2 hod9 hU2 (by omega) (by omega) (by omega) (by omega) (by omega) (by omega)) hsn1 (od_up hm9 (by omega) (by omega) hU2 (by rw [hfk]; omega) (by omega) (by decide) (by decide) (by omega)) _ (lv_sub hl [0, 1, 2] rfl)
        · have hc838 : v835.toInt = g1.toInt := (fi_eq rfl rfl).mp c9
          refine lv_aload_n hx hb dX13_play_36 rfl (lv_at hl 1 rfl) ?_
          refine lv_bipush (v := 16) hx hb dX13_play_37 (by decide) ?_
          refine lv_iload_n hx hb dX13_play_39 rfl (lv_at hl 0 rfl) ?_
          refine lv_iadd hx hb dX13_play_40 ?_
          refine tk_add (show (16 : Int32).toInt = 16 by decide) rfl (by omega) (by omega) (fun v918 h_v918 => ?_)
          refine mz_Vv (As := [.int v918]) (rest := []) ⟨hx, hb, hml, hown, hts⟩ hK hM hS (k_X13_putBack_x l D cy ld ad am hD _ _ _ _ v918 hIF hIG hIR (by omega) (by omega)) ⟨callB_of 1 hts (wl_in mw_1162) rfl rfl rfl (htl _ mw_5) (htl _ mw_1159) hd_yX13_putBack ⟨(Nat.le_of_ble_eq_true rfl), (Nat.le_of_ble_eq_true rfl)⟩, htl _ mw_1160, htl _ mw_1161⟩ rfl hl.1 rfl (Nat.le_of_ble_eq_true rfl) dX13_play_41 ⟨(Nat.le_of_ble_eq_true rfl), (Nat.le_of_ble_eq_true rfl)⟩ (fun H locs F G R S hpo hM hS => ?_)
          obtain ⟨hIF, hIG, hIR, hfr9, hrr9, hgr9, hrel9, hx919⟩ := hpo
          have hFF := mz_fr (K := [34, 38, 41]) (Fa := Fa) hfr9 hFF (by decide)
          have hRR := mz_fr (K := [3, 6, 43, 44, 45, 46]) (Fa := Ra) hrr9 hRR (by decide)
          have hGG := mz_fr (K := [39, 40]) (Fa := Ga) hgr9 hGG (by decide)
          have hrel := hrel.trans hrel9
          have em836 : R 43 (v195 : Int32).toNatClampNeg = _ := (congrFun (hrr9 43 (by decide)) _).trans em836
          have hg_1 : R 3 1 = _ := (hrel9 1 (by omega)).trans hg_1
          have hU1 := (hrr9 43 (by decide)).trans hU1
          have hpb : 0 ≤ (R 3 12).toInt := sn.back hsn9 (by rw [← ef6]; exact hx919) (by omega) (by omega)
          have ef6 := (hrr9 6 (by decide)).trans ef6
          obtain ⟨v922, hf921⟩ : ∃ z : Int32, R 3 12 = z := ⟨_, rfl⟩
          have hq_v922 := tk_rng v922
          have hr_v922 : (-1) ≤ v922.toInt ∧ v922.toInt ≤ 7 := by have h9 := hIR.d; unfold dO at h9; rw [hf921] at h9; omega
          have hd_v922 : 0 ≤ v922.toInt := by rw [← hf921]; exact hpb
          obtain ⟨v923, h_v923, e_v923⟩ := tk_inc v195 (-1) (by decide) (by omega) (by omega)
          refine lv_iinc (v := v923) (lv' := [(2, .int v923), (0, .ref am), (1, .int p1)]) hx hb dX13_play_44 hl (k := 0) rfl e_v923 (by decide) rfl (fun ls hl => ?_)
          refine lv_iload_n hx hb dX13_play_47 rfl (lv_at hl 0 rfl) ?_
          refine lv_if_lt (tgt := 7) hx hb dX13_play_48 (by decide) (fun c9 => ?_) (fun c9 => ?_)
          · have hc924 : v923.toInt < 0 := (fi_lt rfl (show (0 : Int32).toInt = 0 by decide)).mp c9
            exact ih_l832 v923 v922 _ _ _ _ _ _ (by omega) (by omega) (by omega) (by omega) hM hS hIF hIG hIR hFF hGG hRR hrel hf921 hg_1 (od_r0 hod9 hU1 (by omega) (by omega)) (sn.le hsn9 ef6 (by omega)) (by rw [show (v923.toInt + 1).toNat = v195.toInt.toNat by omega]; exact od_dn hm9 (by omega) hU1 (by rw [hfk]; omega) (by decide) (by omega)) _ (lv_sub hl [0, 1, 2] rfl)
          · have hc924 : ¬ (v923.toInt < 0) := fun h9 => c9 ((fi_lt rfl (show (0 : Int32).toInt = 0 by decide)).mpr h9)
            refine lv_aload_n hx hb dX13_play_51 rfl (lv_at hl 1 rfl) ?_
            refine lv_bipush (v := 16) hx hb dX13_play_52 (by decide) ?_
            refine lv_iload_n hx hb dX13_play_54 rfl (lv_at hl 0 rfl) ?_
            refine lv_iadd hx hb dX13_play_55 ?_
            refine tk_add (show (16 : Int32).toInt = 16 by decide) rfl (by omega) (by omega) (fun v925 h_v925 => ?_)
            refine mz_Vv (As := [.int v925]) (rest := []) ⟨hx, hb, hml, hown, hts⟩ hK hM hS (k_X13_putBack_x l D cy ld ad am hD _ _ _ _ v925 hIF hIG hIR (by omega) (by omega)) ⟨callB_of 1 hts (wl_in mw_1162) rfl rfl rfl (htl _ mw_5) (htl _ mw_1159) hd_yX13_putBack ⟨(Nat.le_of_ble_eq_true rfl), (Nat.le_of_ble_eq_true rfl)⟩, htl _ mw_1160, htl _ mw_1161⟩ rfl hl.1 rfl (Nat.le_of_ble_eq_true rfl) dX13_play_56 ⟨(Nat.le_of_ble_eq_true rfl), (Nat.le_of_ble_eq_true rfl)⟩ (fun H locs F G R S hpo hM hS => ?_)
            obtain ⟨hIF, hIG, hIR, hfr9, hrr9, hgr9, hrel9, hx926⟩ := hpo
            have hFF := mz_fr (K := [34, 38, 41]) (Fa := Fa) hfr9 hFF (by decide)
            have hRR := mz_fr (K := [3, 6, 43, 44, 45, 46]) (Fa := Ra) hrr9 hRR (by decide)
            have hGG := mz_fr (K := [39, 40]) (Fa := Ga) hgr9 hGG (by decide)
            have hrel := hrel.trans hrel9
            have em836 : R 43 (v195 : Int32).toNatClampNeg = _ := (congrFun (hrr9 43 (by decide)) _).trans em836
            have hg_1 : R 3 1 = _ := (hrel9 1 (by omega)).trans hg_1
            have hU1 := (hrr9 43 (by decide)).trans hU1
            have hpb : 0 ≤ (R 3 12).toInt := sn.back hsn9 (by rw [← ef6]; exact hx926) (by omega) (by omega)
            have ef6 := (hrr9 6 (by decide)).trans ef6
            obtain ⟨v929, hf928⟩ : ∃ z : Int32, R 3 12 = z := ⟨_, rfl⟩
            have hq_v929 := tk_rng v929
            have hr_v929 : (-1) ≤ v929.toInt ∧ v929.toInt ≤ 7 := by have h9 := hIR.d; unfold dO at h9; rw [hf928] at h9; omega
            have hd_v929 : 0 ≤ v929.toInt := by rw [← hf928]; exact hpb
            refine lv_aload_n hx hb dX13_play_59 rfl (lv_at hl 1 rfl) ?_
            refine lv_iload_n hx hb dX13_play_60 rfl (lv_at hl 0 rfl) ?_
            refine lv_aload_n hx hb dX13_play_61 rfl (lv_at hl 1 rfl) ?_
            refine mz_getR hx hb htl hown hK hM 44 (Nat.le_of_ble_eq_true rfl) (Nat.le_of_ble_eq_true rfl) (htl _ mw_228) (fun _ h9 => h9) dX13_play_62 ?_
            refine lv_iload_n hx hb dX13_play_65 rfl (lv_at hl 0 rfl) ?_
            refine lv_iconst (v := 1) hx hb dX13_play_66 (by decide) ?_
            refine lv_iadd hx hb dX13_play_67 ?_
            refine tk_add rfl (show (1 : Int32).toInt = 1 by decide) (by omega) (by omega) (fun v930 h_v930 => ?_)
            refine mz_iald hx hb hK hM 44 (Nat.le_of_ble_eq_true rfl) rfl (nn := 5) rfl rfl (by omega) (by omega) dX13_play_68 (fun v931 e_v931 => ?_)
            have hq_v931 := tk_rng v931
            refine mz_Vv (As := [.int v923, .int v931]) (rest := []) ⟨hx, hb, hml, hown, hts⟩ hK hM hS (k_X13_weigh l D cy ld ad am hD _ _ _ _ v923 v931 hIF hIG hIR (by omega) (by omega)) ⟨callB_of 2 hts (wl_in mw_1319) rfl rfl rfl (htl _ mw_5) (htl _ mw_1316) hd_yX13_weigh ⟨(Nat.le_of_ble_eq_true rfl), (Nat.le_of_ble_eq_true rfl)⟩, htl _ mw_1317, htl _ mw_1318⟩ rfl hl.1 rfl (Nat.le_of_ble_eq_true rfl) dX13_play_69 ⟨(Nat.le_of_ble_eq_true rfl), (Nat.le_of_ble_eq_true rfl)⟩ (fun H locs F G R S hpo hM hS => ?_)
            obtain ⟨hIF, hIG, hIR, hfr9, hrr9, hgr9⟩ := hpo
            have hFF := mz_fr (K := [34, 38, 41]) (Fa := Fa) hfr9 hFF (by decide)
            have hRR := mz_fr (K := [3, 6, 43, 44, 45, 46]) (Fa := Ra) hrr9 hRR (by decide)
            have hGG := mz_fr (K := [39, 40]) (Fa := Ga) hgr9 hGG (by decide)
            have hrel : rK1 (Ra 3) (R 3) := hrel.trans (rK1.refl (hrr9 3 (by decide)))
            have em836 : R 43 (v195 : Int32).toNatClampNeg = _ := (congrFun (hrr9 43 (by decide)) _).trans em836
            have hg_1 : R 3 1 = _ := (congrFun (hrr9 3 (by decide)) 1).trans hg_1
            have hf928 : R 3 12 = _ := (congrFun (hrr9 3 (by decide)) 12).trans hf928
            have hU1 := (hrr9 43 (by decide)).trans hU1
            have ef6 := (hrr9 6 (by decide)).trans ef6
            refine lv_goto (tgt := 7) hx hb dX13_play_72 (by decide) ?_
            exact ih_l832 v923 v929 _ _ _ _ _ _ (by omega) (by omega) (by omega) (by omega) hM hS hIF hIG hIR hFF hGG hRR hrel hf928 hg_1 (od_r0 hod9 hU1 (by omega) (by omega)) (sn.le hsn9 ef6 (by omega)) (by rw [show (v923.toInt + 1).toNat = v195.toInt.toNat by omega]; exact od_dn hm9 (by omega) hU1 (by rw [hfk]; omega) (by decide) (by omega)) _ (lv_sub hl [0, 1, 2] rfl)
  have hk_0 : (0 : Int32).toInt = 0 := by decide
  have hk_0 : (0 : Int32).toInt = 0 := by decide
  have hk_0 : (0 : Int32).toInt = 0 := by decide
  exact hl832 228097 0 g12 _ _ _ _ _ _ (by omega) (by omega) (by omega) (by omega) hM hS hIF hIG hIR hFF hGG hRR hrel hg_0 hg_1 (fun j hj => by rw [show j = 0 by omega, hx1, show (0 : Int32).toInt.toNat = 0 by decide, pk_us]; exact ⟨by decide, by have h9 : (-1 : Int32).toInt = -1 := (by decide); omega⟩) hsn (by rw [show ((0 : Int32).toInt + 1).toNat = 0 + 1 by decide, oM.s, hx1, show (0 : Int32).toInt.toNat = 0 by decide, pk_us]; show (0 : Int) + (10 - (-1 : Int32).toInt) * ((12 ^ (4 - 0) : Nat) : Int) < ((228097 : Nat) : Int); decide) _ (lv_sub hl [0, 1, 2] rfl)
