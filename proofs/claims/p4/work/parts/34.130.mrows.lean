theorem dX13_weighRow_0 : decode cX13_weighRow 0 = .ok (.iconst 0, 1) := by decide +kernel
theorem dX13_weighRow_1 : decode cX13_weighRow 1 = .ok (.istore_n 2, 1) := by decide +kernel
theorem dX13_weighRow_2 : decode cX13_weighRow 2 = .ok (.iconst 0, 1) := by decide +kernel
theorem dX13_weighRow_3 : decode cX13_weighRow 3 = .ok (.istore_n 3, 1) := by decide +kernel
theorem dX13_weighRow_4 : decode cX13_weighRow 4 = .ok (.iconst 0, 1) := by decide +kernel
theorem dX13_weighRow_5 : decode cX13_weighRow 5 = .ok (.istore 4, 2) := by decide +kernel
theorem dX13_weighRow_7 : decode cX13_weighRow 7 = .ok (.iload 4, 2) := by decide +kernel
theorem dX13_weighRow_9 : decode cX13_weighRow 9 = .ok (.iload_n 1, 1) := by decide +kernel
theorem dX13_weighRow_10 : decode cX13_weighRow 10 = .ok (.if_icmp .ge 78, 3) := by decide +kernel
theorem dX13_weighRow_88 : decode cX13_weighRow 88 = .ok (.iload_n 2, 1) := by decide +kernel
theorem dX13_weighRow_89 : decode cX13_weighRow 89 = .ok (.aload_n 0, 1) := by decide +kernel
theorem dX13_weighRow_90 : decode cX13_weighRow 90 = .ok (.getfield 539, 3) := by decide +kernel
theorem dX13_weighRow_93 : decode cX13_weighRow 93 = .ok (.if_icmp .gt 19, 3) := by decide +kernel
theorem dX13_weighRow_112 : decode cX13_weighRow 112 = .ok (.aload_n 0, 1) := by decide +kernel
theorem dX13_weighRow_113 : decode cX13_weighRow 113 = .ok (.iload_n 2, 1) := by decide +kernel
theorem dX13_weighRow_114 : decode cX13_weighRow 114 = .ok (.putfield 539, 3) := by decide +kernel
theorem dX13_weighRow_117 : decode cX13_weighRow 117 = .ok (.aload_n 0, 1) := by decide +kernel
theorem dX13_weighRow_118 : decode cX13_weighRow 118 = .ok (.iload_n 3, 1) := by decide +kernel
theorem dX13_weighRow_119 : decode cX13_weighRow 119 = .ok (.putfield 542, 3) := by decide +kernel
theorem dX13_weighRow_122 : decode cX13_weighRow 122 = .ok (.iconst 0, 1) := by decide +kernel
theorem dX13_weighRow_123 : decode cX13_weighRow 123 = .ok (.istore 4, 2) := by decide +kernel
theorem dX13_weighRow_125 : decode cX13_weighRow 125 = .ok (.iload 4, 2) := by decide +kernel
theorem dX13_weighRow_127 : decode cX13_weighRow 127 = .ok (.iload_n 1, 1) := by decide +kernel
theorem dX13_weighRow_128 : decode cX13_weighRow 128 = .ok (.if_icmp .ge 23, 3) := by decide +kernel
theorem dX13_weighRow_151 : decode cX13_weighRow 151 = .ok (.return_, 1) := by decide +kernel
theorem dX13_weighRow_131 : decode cX13_weighRow 131 = .ok (.aload_n 0, 1) := by decide +kernel
theorem dX13_weighRow_132 : decode cX13_weighRow 132 = .ok (.getfield 137, 3) := by decide +kernel
theorem dX13_weighRow_135 : decode cX13_weighRow 135 = .ok (.iload 4, 2) := by decide +kernel
theorem dX13_weighRow_137 : decode cX13_weighRow 137 = .ok (.aload_n 0, 1) := by decide +kernel
theorem dX13_weighRow_138 : decode cX13_weighRow 138 = .ok (.getfield 134, 3) := by decide +kernel
theorem dX13_weighRow_141 : decode cX13_weighRow 141 = .ok (.iload 4, 2) := by decide +kernel
theorem dX13_weighRow_143 : decode cX13_weighRow 143 = .ok (.iaload, 1) := by decide +kernel
theorem dX13_weighRow_144 : decode cX13_weighRow 144 = .ok (.iastore, 1) := by decide +kernel
theorem dX13_weighRow_145 : decode cX13_weighRow 145 = .ok (.iinc 4 1, 3) := by decide +kernel
theorem dX13_weighRow_148 : decode cX13_weighRow 148 = .ok (.goto (-23), 3) := by decide +kernel
theorem dX13_weighRow_96 : decode cX13_weighRow 96 = .ok (.iload_n 2, 1) := by decide +kernel
theorem dX13_weighRow_97 : decode cX13_weighRow 97 = .ok (.aload_n 0, 1) := by decide +kernel
theorem dX13_weighRow_98 : decode cX13_weighRow 98 = .ok (.getfield 539, 3) := by decide +kernel
theorem dX13_weighRow_101 : decode cX13_weighRow 101 = .ok (.if_icmp .ne 50, 3) := by decide +kernel
theorem dX13_weighRow_104 : decode cX13_weighRow 104 = .ok (.iload_n 3, 1) := by decide +kernel
theorem dX13_weighRow_105 : decode cX13_weighRow 105 = .ok (.aload_n 0, 1) := by decide +kernel
theorem dX13_weighRow_106 : decode cX13_weighRow 106 = .ok (.getfield 542, 3) := by decide +kernel
theorem dX13_weighRow_109 : decode cX13_weighRow 109 = .ok (.if_icmp .ge 42, 3) := by decide +kernel
theorem dX13_weighRow_13 : decode cX13_weighRow 13 = .ok (.aload_n 0, 1) := by decide +kernel
theorem dX13_weighRow_14 : decode cX13_weighRow 14 = .ok (.getfield 134, 3) := by decide +kernel
theorem dX13_weighRow_17 : decode cX13_weighRow 17 = .ok (.iload 4, 2) := by decide +kernel
theorem dX13_weighRow_19 : decode cX13_weighRow 19 = .ok (.iaload, 1) := by decide +kernel
theorem dX13_weighRow_20 : decode cX13_weighRow 20 = .ok (.bipush 8, 2) := by decide +kernel
theorem dX13_weighRow_52 : decode cX13_weighRow 52 = .ok (.istore 5, 2) := by decide +kernel
theorem dX13_weighRow_54 : decode cX13_weighRow 54 = .ok (.iload_n 2, 1) := by decide +kernel
theorem dX13_weighRow_55 : decode cX13_weighRow 55 = .ok (.iload 5, 2) := by decide +kernel
theorem dX13_weighRow_57 : decode cX13_weighRow 57 = .ok (.iconst 1, 1) := by decide +kernel
theorem dX13_weighRow_66 : decode cX13_weighRow 66 = .ok (.iadd, 1) := by decide +kernel
theorem dX13_weighRow_67 : decode cX13_weighRow 67 = .ok (.istore_n 2, 1) := by decide +kernel
theorem dX13_weighRow_68 : decode cX13_weighRow 68 = .ok (.iload_n 3, 1) := by decide +kernel
theorem dX13_weighRow_69 : decode cX13_weighRow 69 = .ok (.iload 5, 2) := by decide +kernel
theorem dX13_weighRow_71 : decode cX13_weighRow 71 = .ok (.iconst (-1), 1) := by decide +kernel
theorem dX13_weighRow_80 : decode cX13_weighRow 80 = .ok (.iadd, 1) := by decide +kernel
theorem dX13_weighRow_81 : decode cX13_weighRow 81 = .ok (.istore_n 3, 1) := by decide +kernel
theorem dX13_weighRow_82 : decode cX13_weighRow 82 = .ok (.iinc 4 1, 3) := by decide +kernel
theorem dX13_weighRow_85 : decode cX13_weighRow 85 = .ok (.goto (-78), 3) := by decide +kernel
theorem dX13_weighRow_72 : decode cX13_weighRow 72 = .ok (.if_icmp .ne 7, 3) := by decide +kernel
theorem dX13_weighRow_79 : decode cX13_weighRow 79 = .ok (.iconst 0, 1) := by decide +kernel
theorem dX13_weighRow_75 : decode cX13_weighRow 75 = .ok (.iconst 1, 1) := by decide +kernel
theorem dX13_weighRow_76 : decode cX13_weighRow 76 = .ok (.goto 4, 3) := by decide +kernel
theorem dX13_weighRow_58 : decode cX13_weighRow 58 = .ok (.if_icmp .ne 7, 3) := by decide +kernel
theorem dX13_weighRow_65 : decode cX13_weighRow 65 = .ok (.iconst 0, 1) := by decide +kernel
theorem dX13_weighRow_61 : decode cX13_weighRow 61 = .ok (.iconst 1, 1) := by decide +kernel
theorem dX13_weighRow_62 : decode cX13_weighRow 62 = .ok (.goto 4, 3) := by decide +kernel
theorem dX13_weighRow_22 : decode cX13_weighRow 22 = .ok (.if_icmp .ne 7, 3) := by decide +kernel
theorem dX13_weighRow_29 : decode cX13_weighRow 29 = .ok (.aload_n 0, 1) := by decide +kernel
theorem dX13_weighRow_30 : decode cX13_weighRow 30 = .ok (.getfield 128, 3) := by decide +kernel
theorem dX13_weighRow_33 : decode cX13_weighRow 33 = .ok (.bipush 8, 2) := by decide +kernel
theorem dX13_weighRow_35 : decode cX13_weighRow 35 = .ok (.aload_n 0, 1) := by decide +kernel
theorem dX13_weighRow_36 : decode cX13_weighRow 36 = .ok (.getfield 131, 3) := by decide +kernel
theorem dX13_weighRow_39 : decode cX13_weighRow 39 = .ok (.iload 4, 2) := by decide +kernel
theorem dX13_weighRow_41 : decode cX13_weighRow 41 = .ok (.iaload, 1) := by decide +kernel
theorem dX13_weighRow_42 : decode cX13_weighRow 42 = .ok (.imul, 1) := by decide +kernel
theorem dX13_weighRow_43 : decode cX13_weighRow 43 = .ok (.aload_n 0, 1) := by decide +kernel
theorem dX13_weighRow_44 : decode cX13_weighRow 44 = .ok (.getfield 134, 3) := by decide +kernel
theorem dX13_weighRow_47 : decode cX13_weighRow 47 = .ok (.iload 4, 2) := by decide +kernel
theorem dX13_weighRow_49 : decode cX13_weighRow 49 = .ok (.iaload, 1) := by decide +kernel
theorem dX13_weighRow_50 : decode cX13_weighRow 50 = .ok (.iadd, 1) := by decide +kernel
theorem dX13_weighRow_51 : decode cX13_weighRow 51 = .ok (.iaload, 1) := by decide +kernel
theorem dX13_weighRow_25 : decode cX13_weighRow 25 = .ok (.iconst 0, 1) := by decide +kernel
theorem dX13_weighRow_26 : decode cX13_weighRow 26 = .ok (.goto 26, 3) := by decide +kernel
set_option maxHeartbeats 4000000 in
set_option maxRecDepth 100000 in
theorem k_X13_weighRow (l : Launch) (D : va_G) (cy : Nat → ClassId) (ld ad : Nat → Nat) (am : Nat) (hD : mz_D ad am) (Fa : Nat → Int32) (Ga : Nat → Int64) (Ra : Nat → Nat → Int32) (Sa : Nat → Nat → Int64) (p1 : Int32) (hIF : mz_IF true Fa) (hIG : mz_IG Ga) (hIR : mz_IR [] true Ra) (hp_0 : 0 ≤ p1.toInt) (hp_1 : p1.toInt ≤ 8) (hx_0 : ∀ j : Nat, (j : Int) < p1.toInt → 0 ≤ (Ra 51 j).toInt ∧ (Ra 51 j).toInt ≤ 8) : Met l yX13_weighRow (wl yX13_weighRow cX13_weighRow 6 none) ({ frames := 3, cells := 0, slots := 0, locals := 140 }) (mz_p D cy ld ad am Fa Ga Ra Sa [.ref am, .int p1]) (mz_w D cy ad am (fun F G R S => mz_IF true F ∧ mz_IG G ∧ mz_IR [] true R ∧ (∀ k : Nat, k ∉ ([53, 54] : List Nat) → F k = Fa k) ∧ (∀ k : Nat, k ∉ ([52] : List Nat) → R k = Ra k) ∧ (∀ k : Nat, k ∉ ([] : List Nat) → G k = Ga k))) 0 0 (mz_W ad am) := by
  refine mz_met (y := yX13_weighRow) (cc := cX13_weighRow) (maxL := 6) (ret := none) (av := [.ref am, .int p1]) _ (by decide) (Nat.le_of_ble_eq_true rfl) ?_
  intro p e s m args below meth c hx hb hr hml hts htl hown hlocks hK H locs hM hS ls hl
  have hown : s.vm.findClass RX13 = some m.cls := hown
  have hl : lv_has ls 6 [(0, .ref am), (1, .int p1)] := hl
  have hr_p1 := tk_rng p1
  refine lv_iconst (v := 0) hx hb dX13_weighRow_0 (by decide) ?_
  refine lv_istore_n (lv' := [(2, .int 0), (0, .ref am), (1, .int p1)]) hx hb dX13_weighRow_1 rfl hl (by decide) rfl (fun ls hl => ?_)
  refine lv_iconst (v := 0) hx hb dX13_weighRow_2 (by decide) ?_
  refine lv_istore_n (lv' := [(3, .int 0), (2, .int 0), (0, .ref am), (1, .int p1)]) hx hb dX13_weighRow_3 rfl hl (by decide) rfl (fun ls hl => ?_)
  refine lv_iconst (v := 0) hx hb dX13_weighRow_4 (by decide) ?_
  refine lv_istore (lv' := [(4, .int 0), (3, .int 0), (2, .int 0), (0, .ref am), (1, .int p1)]) hx hb dX13_weighRow_5 hl (by decide) rfl (fun ls hl => ?_)
  have hl849 : ∀ (N_l849 : Nat) (v234 : Int32) (v235 : Int32) (v236 : Int32), (0 ≤ v235.toInt) → (0 ≤ v236.toInt) → (0 ≤ v234.toInt + (-1) * v235.toInt) → (0 ≤ v234.toInt + (-1) * v236.toInt) → (0 ≤ p1.toInt + (-1) * v234.toInt) → ((-1) * v234.toInt + 8 < (N_l849 : Int)) → ∀ ls : Array Slot, lv_has ls 6 [(4, .int v234), (3, .int v235), (2, .int v236), (0, .ref am), (1, .int p1)] → W p l e ({ frames := 3, cells := 0, slots := 0, locals := 140 }) s m args below meth c H locs 0 0 (MQ below (mz_w D cy ad am (fun F G R S => mz_IF true F ∧ mz_IG G ∧ mz_IR [] true R ∧ (∀ k : Nat, k ∉ ([53, 54] : List Nat) → F k = Fa k) ∧ (∀ k : Nat, k ∉ ([52] : List Nat) → R k = Ra k) ∧ (∀ k : Nat, k ∉ ([] : List Nat) → G k = Ga k))) args s 0 0 (mz_W ad am)) (F0 m 7 ls []) := by
    intro N_l849
    induction N_l849 with
    | zero => intro v234 v235 v236 hq0_l849 hq1_l849 hq2_l849 hq3_l849 hq4_l849 hm_l849 ls hl; exfalso; omega
    | succ N_l849 ih_l849 =>
      intro v234 v235 v236 hq0_l849 hq1_l849 hq2_l849 hq3_l849 hq4_l849 hm_l849 ls hl
      refine lv_iload hx hb dX13_weighRow_7 (lv_at hl 0 rfl) ?_
      refine lv_iload_n hx hb dX13_weighRow_9 rfl (lv_at hl 4 rfl) ?_
      refine lv_icmp_ge (tgt := 88) hx hb dX13_weighRow_10 (by decide) (fun c9 => ?_) (fun c9 => ?_)
      · have hc850 : p1.toInt ≤ v234.toInt := (fi_le rfl rfl).mp c9
        refine lv_iload_n hx hb dX13_weighRow_88 rfl (lv_at hl 2 rfl) ?_
        refine lv_aload_n hx hb dX13_weighRow_89 rfl (lv_at hl 3 rfl) ?_
        refine mz_getI hx hb htl hown hK hM 53 (Nat.le_of_ble_eq_true rfl) rfl (htl _ mw_1433) (fun _ h9 => h9) dX13_weighRow_90 (fun v876 hf875 => ?_)
        have hq_v876 := tk_rng v876
        refine lv_icmp_gt (tgt := 112) hx hb dX13_weighRow_93 (by decide) (fun c9 => ?_) (fun c9 => ?_)
        · have hc877 : v876.toInt < v236.toInt := (fi_lt rfl rfl).mp c9
          refine lv_aload_n hx hb dX13_weighRow_112 rfl (lv_at hl 3 rfl) ?_
          refine lv_iload_n hx hb dX13_weighRow_113 rfl (lv_at hl 2 rfl) ?_
          refine mz_putI (ty := .int) (x := v236) hx hb htl hown hK hD hM hS 53 (Nat.le_of_ble_eq_true rfl) rfl (htl _ mw_1433) (fun _ h9 => h9) rfl (tyX13_ok 53 (by decide)) rfl rfl dX13_weighRow_114 (fun H locs F hM hS hf9 hj9 => ?_)
          have hIF := hIF.put hf9 hj9 (tk_rng _).1 (tk_rng _).2 (by decide)
          have hFF := mz_frp (K := [53, 54]) (Fa := Fa) hj9 (fun _ _ => rfl) (by decide)
          have hf879 := hf9
          refine lv_aload_n hx hb dX13_weighRow_117 rfl (lv_at hl 3 rfl) ?_
          refine lv_iload_n hx hb dX13_weighRow_118 rfl (lv_at hl 1 rfl) ?_
          refine mz_putI (ty := .int) (x := v235) hx hb htl hown hK hD hM hS 54 (Nat.le_of_ble_eq_true rfl) rfl (htl _ mw_1434) (fun _ h9 => h9) rfl (tyX13_ok 54 (by decide)) rfl rfl dX13_weighRow_119 (fun H locs F hM hS hf9 hj9 => ?_)
          have hIF := hIF.put hf9 hj9 (tk_rng _).1 (tk_rng _).2 (by decide)
          have hFF := mz_frp (K := [53, 54]) (Fa := Fa) hj9 hFF (by decide)
          have hf879 := (hj9 53 (by decide)).trans hf879
          have hf881 := hf9
          refine lv_iconst (v := 0) hx hb dX13_weighRow_122 (by decide) ?_
          refine lv_istore (lv' := [(4, .int 0), (3, .int v235), (2, .int v236), (0, .ref am), (1, .int p1)]) hx hb dX13_weighRow_123 hl (by decide) rfl (fun ls hl => ?_)
          have hl908 : ∀ (N_l908 : Nat) (v882 : Int32) (H : Heap) (locs : List Loc) (R : Nat → Nat → Int32), (0 ≤ v882.toInt) → (0 ≤ p1.toInt + (-1) * v882.toInt) → (mz_S D cy ad am F Ga R Sa H) → (va_S (mz_W ad am) s.heap H locs) → (mz_IR [] true R) → (∀ k : Nat, k ∉ ([52] : List Nat) → R k = Ra k) → ((-1) * v882.toInt + 8 < (N_l908 : Int)) → ∀ ls : Array Slot, lv_has ls 6 [(4, .int v882), (0, .ref am), (1, .int p1)] → W p l e ({ frames := 3, cells := 0, slots := 0, locals := 140 }) s m args below meth c H locs 0 0 (MQ below (mz_w D cy ad am (fun F G R S => mz_IF true F ∧ mz_IG G ∧ mz_IR [] true R ∧ (∀ k : Nat, k ∉ ([53, 54] : List Nat) → F k = Fa k) ∧ (∀ k : Nat, k ∉ ([52] : List Nat) → R k = Ra k) ∧ (∀ k : Nat, k ∉ ([] : List Nat) → G k = Ga k))) args s 0 0 (mz_W ad am)) (F0 m 125 ls []) := by
            intro N_l908
            induction N_l908 with
            | zero => intro v882 H locs R hq0_l908 hq1_l908 hM hS hIR hRR hm_l908 ls hl; exfalso; omega
            | succ N_l908 ih_l908 =>
              intro v882 H locs R hq0_l908 hq1_l908 hM hS hIR hRR hm_l908 ls hl
              refine lv_iload hx hb dX13_weighRow_125 (lv_at hl 0 rfl) ?_
              refine lv_iload_n hx hb dX13_weighRow_127 rfl (lv_at hl 2 rfl) ?_
              refine lv_icmp_ge (tgt := 151) hx hb dX13_weighRow_128 (by decide) (fun c9 => ?_) (fun c9 => ?_)
              · have hc909 : p1.toInt ≤ v882.toInt := (fi_le rfl rfl).mp c9
                exact mz_vret hx hb hr hlocks ⟨hIF, hIG, hIR, hFF, hRR, (fun _ _ => rfl)⟩ hM hS dX13_weighRow_151
              · have hc909 : ¬ (p1.toInt ≤ v882.toInt) := fun h9 => c9 ((fi_le rfl rfl).mpr h9)
                refine lv_aload_n hx hb dX13_weighRow_131 rfl (lv_at hl 1 rfl) ?_
                refine mz_getR hx hb htl hown hK hM 52 (Nat.le_of_ble_eq_true rfl) (Nat.le_of_ble_eq_true rfl) (htl _ mw_235) (fun _ h9 => h9) dX13_weighRow_132 ?_
                refine lv_iload hx hb dX13_weighRow_135 (lv_at hl 0 rfl) ?_
                refine lv_aload_n hx hb dX13_weighRow_137 rfl (lv_at hl 1 rfl) ?_
                refine mz_getR hx hb htl hown hK hM 51 (Nat.le_of_ble_eq_true rfl) (Nat.le_of_ble_eq_true rfl) (htl _ mw_234) (fun _ h9 => h9) dX13_weighRow_138 ?_
                refine lv_iload hx hb dX13_weighRow_141 (lv_at hl 0 rfl) ?_
                refine mz_iald hx hb hK hM 51 (Nat.le_of_ble_eq_true rfl) rfl (nn := 8) rfl rfl (by omega) (by omega) dX13_weighRow_143 (fun v910 e_v910 => ?_)
                have hq_v910 := tk_rng v910
                refine mz_iast (x := v910) hx hb hK hD hM hS 52 (Nat.le_of_ble_eq_true rfl) rfl (nn := 8) rfl rfl (by omega) (by omega) dX13_weighRow_144 (fun H locs R hM hS hw9 hj9 => ?_)
                have hIR := hIR.put hw9 hj9 trivial
                have hRR := mz_frp (K := [52]) (Fa := Ra) hj9 hRR (by decide)
                have e_v910 : R 51 (v882 : Int32).toNatClampNeg = _ := (congrFun (hj9 51 (by decide)) _).trans e_v910
                obtain ⟨v912, h_v912, e_v912⟩ := tk_inc v882 1 (by decide) (by omega) (by omega)
                refine lv_iinc (v := v912) (lv' := [(4, .int v912), (0, .ref am), (1, .int p1)]) hx hb dX13_weighRow_145 hl (k := 0) rfl e_v912 (by decide) rfl (fun ls hl => ?_)
                refine lv_goto (tgt := 125) hx hb dX13_weighRow_148 (by decide) ?_
                exact ih_l908 v912 _ _ _ (by omega) (by omega) hM hS hIR hRR (by omega) _ (lv_sub hl [0, 1, 2] rfl)
          have hk_0 : (0 : Int32).toInt = 0 := by decide
          exact hl908 9 0 _ _ _ (by omega) (by omega) hM hS hIR (fun _ _ => rfl) (by omega) _ (lv_sub hl [0, 3, 4] rfl)
        · have hc877 : ¬ (v876.toInt < v236.toInt) := fun h9 => c9 ((fi_lt rfl rfl).mpr h9)
          refine lv_iload_n hx hb dX13_weighRow_96 rfl (lv_at hl 2 rfl) ?_
          refine lv_aload_n hx hb dX13_weighRow_97 rfl (lv_at hl 3 rfl) ?_
          refine mz_getI hx hb htl hown hK hM 53 (Nat.le_of_ble_eq_true rfl) rfl (htl _ mw_1433) (fun _ h9 => h9) dX13_weighRow_98 (fun v9 e9 => ?_)
          refine fx_ti (v := v876) (e9.symm.trans hf875) ?_
          refine lv_icmp_ne (tgt := 151) hx hb dX13_weighRow_101 (by decide) (fun c9 => ?_) (fun c9 => ?_)
          · have hc913 : ¬ (v236.toInt = v876.toInt) := fun h9 => c9 ((fi_eq rfl rfl).mpr h9)
            exact mz_vret hx hb hr hlocks ⟨hIF, hIG, hIR, (fun _ _ => rfl), (fun _ _ => rfl), (fun _ _ => rfl)⟩ hM hS dX13_weighRow_151
          · have hc913 : v236.toInt = v876.toInt := (fi_eq rfl rfl).mp c9
            refine lv_iload_n hx hb dX13_weighRow_104 rfl (lv_at hl 1 rfl) ?_
            refine lv_aload_n hx hb dX13_weighRow_105 rfl (lv_at hl 3 rfl) ?_
            refine mz_getI hx hb htl hown hK hM 54 (Nat.le_of_ble_eq_true rfl) rfl (htl _ mw_1434) (fun _ h9 => h9) dX13_weighRow_106 (fun v915 hf914 => ?_)
            have hq_v915 := tk_rng v915
            refine lv_icmp_ge (tgt := 151) hx hb dX13_weighRow_109 (by decide) (fun c9 => ?_) (fun c9 => ?_)
            · have hc916 : v915.toInt ≤ v235.toInt := (fi_le rfl rfl).mp c9
              exact mz_vret hx hb hr hlocks ⟨hIF, hIG, hIR, (fun _ _ => rfl), (fun _ _ => rfl), (fun _ _ => rfl)⟩ hM hS dX13_weighRow_151
            · have hc916 : ¬ (v915.toInt ≤ v235.toInt) := fun h9 => c9 ((fi_le rfl rfl).mpr h9)
              refine lv_aload_n hx hb dX13_weighRow_112 rfl (lv_at hl 3 rfl) ?_
              refine lv_iload_n hx hb dX13_weighRow_113 rfl (lv_at hl 2 rfl) ?_
              refine mz_putI (ty := .int) (x := v236) hx hb htl hown hK hD hM hS 53 (Nat.le_of_ble_eq_true rfl) rfl (htl _ mw_1433) (fun _ h9 => h9) rfl (tyX13_ok 53 (by decide)) rfl rfl dX13_weighRow_114 (fun H locs F hM hS hf9 hj9 => ?_)
              have hIF := hIF.put hf9 hj9 (tk_rng _).1 (tk_rng _).2 (by decide)
              have hFF := mz_frp (K := [53, 54]) (Fa := Fa) hj9 (fun _ _ => rfl) (by decide)
              have hf914 := (hj9 54 (by decide)).trans hf914
              have hf918 := hf9
              refine lv_aload_n hx hb dX13_weighRow_117 rfl (lv_at hl 3 rfl) ?_
              refine lv_iload_n hx hb dX13_weighRow_118 rfl (lv_at hl 1 rfl) ?_
              refine mz_putI (ty := .int) (x := v235) hx hb htl hown hK hD hM hS 54 (Nat.le_of_ble_eq_true rfl) rfl (htl _ mw_1434) (fun _ h9 => h9) rfl (tyX13_ok 54 (by decide)) rfl rfl dX13_weighRow_119 (fun H locs F hM hS hf9 hj9 => ?_)
              have hIF := hIF.put hf9 hj9 (tk_rng _).1 (tk_rng _).2 (by decide)
              have hFF := mz_frp (K := [53, 54]) (Fa := Fa) hj9 hFF (by decide)
              have hf918 := (hj9 53 (by decide)).trans hf918
              have hf920 := hf9
              refine lv_iconst (v := 0) hx hb dX13_weighRow_122 (by decide) ?_
              refine lv_istore (lv' := [(4, .int 0), (3, .int v235), (2, .int v236), (0, .ref am), (1, .int p1)]) hx hb dX13_weighRow_123 hl (by decide) rfl (fun ls hl => ?_)
              have hl947 : ∀ (N_l947 : Nat) (v921 : Int32) (H : Heap) (locs : List Loc) (R : Nat → Nat → Int32), (0 ≤ v921.toInt) → (0 ≤ p1.toInt + (-1) * v921.toInt) → (mz_S D cy ad am F Ga R Sa H) → (va_S (mz_W ad am) s.heap H locs) → (mz_IR [] true R) → (∀ k : Nat, k ∉ ([52] : List Nat) → R k = Ra k) → ((-1) * v921.toInt + 8 < (N_l947 : Int)) → ∀ ls : Array Slot, lv_has ls 6 [(4, .int v921), (0, .ref am), (1, .int p1)] → W p l e ({ frames := 3, cells := 0, slots := 0, locals := 140 }) s m args below meth c H locs 0 0 (MQ below (mz_w D cy ad am (fun F G R S => mz_IF true F ∧ mz_IG G ∧ mz_IR [] true R ∧ (∀ k : Nat, k ∉ ([53, 54] : List Nat) → F k = Fa k) ∧ (∀ k : Nat, k ∉ ([52] : List Nat) → R k = Ra k) ∧ (∀ k : Nat, k ∉ ([] : List Nat) → G k = Ga k))) args s 0 0 (mz_W ad am)) (F0 m 125 ls []) := by
                intro N_l947
                induction N_l947 with
                | zero => intro v921 H locs R hq0_l947 hq1_l947 hM hS hIR hRR hm_l947 ls hl; exfalso; omega
                | succ N_l947 ih_l947 =>
                  intro v921 H locs R hq0_l947 hq1_l947 hM hS hIR hRR hm_l947 ls hl
                  refine lv_iload hx hb dX13_weighRow_125 (lv_at hl 0 rfl) ?_
                  refine lv_iload_n hx hb dX13_weighRow_127 rfl (lv_at hl 2 rfl) ?_
                  refine lv_icmp_ge (tgt := 151) hx hb dX13_weighRow_128 (by decide) (fun c9 => ?_) (fun c9 => ?_)
                  · have hc948 : p1.toInt ≤ v921.toInt := (fi_le rfl rfl).mp c9
                    exact mz_vret hx hb hr hlocks ⟨hIF, hIG, hIR, hFF, hRR, (fun _ _ => rfl)⟩ hM hS dX13_weighRow_151
                  · have hc948 : ¬ (p1.toInt ≤ v921.toInt) := fun h9 => c9 ((fi_le rfl rfl).mpr h9)
                    refine lv_aload_n hx hb dX13_weighRow_131 rfl (lv_at hl 1 rfl) ?_
                    refine mz_getR hx hb htl hown hK hM 52 (Nat.le_of_ble_eq_true rfl) (Nat.le_of_ble_eq_true rfl) (htl _ mw_235) (fun _ h9 => h9) dX13_weighRow_132 ?_
                    refine lv_iload hx hb dX13_weighRow_135 (lv_at hl 0 rfl) ?_
                    refine lv_aload_n hx hb dX13_weighRow_137 rfl (lv_at hl 1 rfl) ?_
                    refine mz_getR hx hb htl hown hK hM 51 (Nat.le_of_ble_eq_true rfl) (Nat.le_of_ble_eq_true rfl) (htl _ mw_234) (fun _ h9 => h9) dX13_weighRow_138 ?_
                    refine lv_iload hx hb dX13_weighRow_141 (lv_at hl 0 rfl) ?_
                    refine mz_iald hx hb hK hM 51 (Nat.le_of_ble_eq_true rfl) rfl (nn := 8) rfl rfl (by omega) (by omega) dX13_weighRow_143 (fun v949 e_v949 => ?_)
                    have hq_v949 := tk_rng v949
                    refine mz_iast (x := v949) hx hb hK hD hM hS 52 (Nat.le_of_ble_eq_true rfl) rfl (nn := 8) rfl rfl (by omega) (by omega) dX13_weighRow_144 (fun H locs R hM hS hw9 hj9 => ?_)
                    have hIR := hIR.put hw9 hj9 trivial
                    have hRR := mz_frp (K := [52]) (Fa := Ra) hj9 hRR (by decide)
                    have e_v949 : R 51 (v921 : Int32).toNatClampNeg = _ := (congrFun (hj9 51 (by decide)) _).trans e_v949
                    obtain ⟨v951, h_v951, e_v951⟩ := tk_inc v921 1 (by decide) (by omega) (by omega)
                    refine lv_iinc (v := v951) (lv' := [(4, .int v951), (0, .ref am), (1, .int p1)]) hx hb dX13_weighRow_145 hl (k := 0) rfl e_v951 (by decide) rfl (fun ls hl => ?_)
                    refine lv_goto (tgt := 125) hx hb dX13_weighRow_148 (by decide) ?_
                    exact ih_l947 v951 _ _ _ (by omega) (by omega) hM hS hIR hRR (by omega) _ (lv_sub hl [0, 1, 2] rfl)
              have hk_0 : (0 : Int32).toInt = 0 := by decide
              exact hl947 9 0 _ _ _ (by omega) (by omega) hM hS hIR (fun _ _ => rfl) (by omega) _ (lv_sub hl [0, 3, 4] rfl)
      · have hc850 : ¬ (p1.toInt ≤ v234.toInt) := fun h9 => c9 ((fi_le rfl rfl).mpr h9)
        refine lv_aload_n hx hb dX13_weighRow_13 rfl (lv_at hl 3 rfl) ?_
        refine mz_getR hx hb htl hown hK hM 51 (Nat.le_of_ble_eq_true rfl) (Nat.le_of_ble_eq_true rfl) (htl _ mw_234) (fun _ h9 => h9) dX13_weighRow_14 ?_
        refine lv_iload hx hb dX13_weighRow_17 (lv_at hl 0 rfl) ?_
        refine mz_iald hx hb hK hM 51 (Nat.le_of_ble_eq_true rfl) rfl (nn := 8) rfl rfl (by omega) (by omega) dX13_weighRow_19 (fun v952 e_v952 => ?_)
        have hq_v952 := tk_rng v952
        have hch_v952 : 0 ≤ v952.toInt ∧ v952.toInt ≤ 8 := by have h9 := hx_0 v234.toInt.toNat (by omega); rw [show Ra 51 v234.toInt.toNat = v952 from e_v952] at h9; exact h9
        refine lv_bipush (v := 8) hx hb dX13_weighRow_20 (by decide) ?_
        have hj960 : ∀ (v959 : Int32), ∀ ls : Array Slot, lv_has ls 6 [(4, .int v234), (3, .int v235), (2, .int v236), (0, .ref am), (1, .int p1)] → W p l e ({ frames := 3, cells := 0, slots := 0, locals := 140 }) s m args below meth c H locs 0 0 (MQ below (mz_w D cy ad am (fun F G R S => mz_IF true F ∧ mz_IG G ∧ mz_IR [] true R ∧ (∀ k : Nat, k ∉ ([53, 54] : List Nat) → F k = Fa k) ∧ (∀ k : Nat, k ∉ ([52] : List Nat) → R k = Ra k) ∧ (∀ k : Nat, k ∉ ([] : List Nat) → G k = Ga k))) args s 0 0 (mz_W ad am)) (F0 m 52 ls [.int v959]) := by
          intro v959  ls hl
          refine lv_istore (lv' := [(5, .int v959), (4, .int v234), (3, .int v235), (2, .int v236), (0, .ref am), (1, .int p1)]) hx hb dX13_weighRow_52 hl (by decide) rfl (fun ls hl => ?_)
          refine lv_iload_n hx hb dX13_weighRow_54 rfl (lv_at hl 3 rfl) ?_
          refine lv_iload hx hb dX13_weighRow_55 (lv_at hl 0 rfl) ?_
          refine lv_iconst (v := 1) hx hb dX13_weighRow_57 (by decide) ?_
          have hj964 : ∀ (v963 : Int32), (0 ≤ v963.toInt) → (v963.toInt ≤ 1) → ∀ ls : Array Slot, lv_has ls 6 [(5, .int v959), (4, .int v234), (3, .int v235), (0, .ref am), (1, .int p1)] → W p l e ({ frames := 3, cells := 0, slots := 0, locals := 140 }) s m args below meth c H locs 0 0 (MQ below (mz_w D cy ad am (fun F G R S => mz_IF true F ∧ mz_IG G ∧ mz_IR [] true R ∧ (∀ k : Nat, k ∉ ([53, 54] : List Nat) → F k = Fa k) ∧ (∀ k : Nat, k ∉ ([52] : List Nat) → R k = Ra k) ∧ (∀ k : Nat, k ∉ ([] : List Nat) → G k = Ga k))) args s 0 0 (mz_W ad am)) (F0 m 66 ls [.int v963, .int v236]) := by
            intro v963 hq0_j964 hq1_j964 ls hl
            refine lv_iadd hx hb dX13_weighRow_66 ?_
            refine tk_add rfl rfl (by omega) (by omega) (fun v965 h_v965 => ?_)
            refine lv_istore_n (lv' := [(2, .int v965), (5, .int v959), (4, .int v234), (3, .int v235), (0, .ref am), (1, .int p1)]) hx hb dX13_weighRow_67 rfl hl (by decide) rfl (fun ls hl => ?_)
            refine lv_iload_n hx hb dX13_weighRow_68 rfl (lv_at hl 3 rfl) ?_
            refine lv_iload hx hb dX13_weighRow_69 (lv_at hl 1 rfl) ?_
            refine lv_iconst (v := (-1)) hx hb dX13_weighRow_71 (by decide) ?_
            have hj969 : ∀ (v968 : Int32), (0 ≤ v968.toInt) → (v968.toInt ≤ 1) → ∀ ls : Array Slot, lv_has ls 6 [(2, .int v965), (4, .int v234), (0, .ref am), (1, .int p1)] → W p l e ({ frames := 3, cells := 0, slots := 0, locals := 140 }) s m args below meth c H locs 0 0 (MQ below (mz_w D cy ad am (fun F G R S => mz_IF true F ∧ mz_IG G ∧ mz_IR [] true R ∧ (∀ k : Nat, k ∉ ([53, 54] : List Nat) → F k = Fa k) ∧ (∀ k : Nat, k ∉ ([52] : List Nat) → R k = Ra k) ∧ (∀ k : Nat, k ∉ ([] : List Nat) → G k = Ga k))) args s 0 0 (mz_W ad am)) (F0 m 80 ls [.int v968, .int v235]) := by
              intro v968 hq0_j969 hq1_j969 ls hl
              refine lv_iadd hx hb dX13_weighRow_80 ?_
              refine tk_add rfl rfl (by omega) (by omega) (fun v970 h_v970 => ?_)
              refine lv_istore_n (lv' := [(3, .int v970), (2, .int v965), (4, .int v234), (0, .ref am), (1, .int p1)]) hx hb dX13_weighRow_81 rfl hl (by decide) rfl (fun ls hl => ?_)
              obtain ⟨v971, h_v971, e_v971⟩ := tk_inc v234 1 (by decide) (by omega) (by omega)
              refine lv_iinc (v := v971) (lv' := [(4, .int v971), (3, .int v970), (2, .int v965), (0, .ref am), (1, .int p1)]) hx hb dX13_weighRow_82 hl (k := 2) rfl e_v971 (by decide) rfl (fun ls hl => ?_)
              refine lv_goto (tgt := 7) hx hb dX13_weighRow_85 (by decide) ?_
              exact ih_l849 v971 v970 v965 (by omega) (by omega) (by omega) (by omega) (by omega) (by omega) _ (lv_sub hl [0, 1, 2, 3, 4] rfl)
            refine lv_icmp_ne (tgt := 79) hx hb dX13_weighRow_72 (by decide) (fun c9 => ?_) (fun c9 => ?_)
            · have hc966 : ¬ (v959.toInt = (-1)) := fun h9 => c9 ((fi_eq rfl (show ((-1) : Int32).toInt = (-1) by decide)).mpr h9)
              refine lv_iconst (v := 0) hx hb dX13_weighRow_79 (by decide) ?_
              have hk_0 : (0 : Int32).toInt = 0 := by decide
              exact hj969 0 (by omega) (by omega) _ (lv_sub hl [0, 2, 4, 5] rfl)
            · have hc966 : v959.toInt = (-1) := (fi_eq rfl (show ((-1) : Int32).toInt = (-1) by decide)).mp c9
              refine lv_iconst (v := 1) hx hb dX13_weighRow_75 (by decide) ?_
              refine lv_goto (tgt := 80) hx hb dX13_weighRow_76 (by decide) ?_
              have hk_1 : (1 : Int32).toInt = 1 := by decide
              exact hj969 1 (by omega) (by omega) _ (lv_sub hl [0, 2, 4, 5] rfl)
          refine lv_icmp_ne (tgt := 65) hx hb dX13_weighRow_58 (by decide) (fun c9 => ?_) (fun c9 => ?_)
          · have hc961 : ¬ (v959.toInt = 1) := fun h9 => c9 ((fi_eq rfl (show (1 : Int32).toInt = 1 by decide)).mpr h9)
            refine lv_iconst (v := 0) hx hb dX13_weighRow_65 (by decide) ?_
            have hk_0 : (0 : Int32).toInt = 0 := by decide
            exact hj964 0 (by omega) (by omega) _ (lv_sub hl [0, 1, 2, 4, 5] rfl)
          · have hc961 : v959.toInt = 1 := (fi_eq rfl (show (1 : Int32).toInt = 1 by decide)).mp c9
            refine lv_iconst (v := 1) hx hb dX13_weighRow_61 (by decide) ?_
            refine lv_goto (tgt := 66) hx hb dX13_weighRow_62 (by decide) ?_
            have hk_1 : (1 : Int32).toInt = 1 := by decide
            exact hj964 1 (by omega) (by omega) _ (lv_sub hl [0, 1, 2, 4, 5] rfl)
        refine lv_icmp_ne (tgt := 29) hx hb dX13_weighRow_22 (by decide) (fun c9 => ?_) (fun c9 => ?_)
        · have hc953 : ¬ (v952.toInt = 8) := fun h9 => c9 ((fi_eq rfl (show (8 : Int32).toInt = 8 by decide)).mpr h9)
          refine lv_aload_n hx hb dX13_weighRow_29 rfl (lv_at hl 3 rfl) ?_
          refine mz_getR hx hb htl hown hK hM 49 (Nat.le_of_ble_eq_true rfl) (Nat.le_of_ble_eq_true rfl) (htl _ mw_232) (fun _ h9 => h9) dX13_weighRow_30 ?_
          refine lv_bipush (v := 8) hx hb dX13_weighRow_33 (by decide) ?_
          refine lv_aload_n hx hb dX13_weighRow_35 rfl (lv_at hl 3 rfl) ?_
          refine mz_getR hx hb htl hown hK hM 50 (Nat.le_of_ble_eq_true rfl) (Nat.le_of_ble_eq_true rfl) (htl _ mw_233) (fun _ h9 => h9) dX13_weighRow_36 ?_
          refine lv_iload hx hb dX13_weighRow_39 (lv_at hl 0 rfl) ?_
          refine mz_iald hx hb hK hM 50 (Nat.le_of_ble_eq_true rfl) rfl (nn := 8) rfl rfl (by omega) (by omega) dX13_weighRow_41 (fun v972 e_v972 => ?_)
          have hq_v972 := tk_rng v972
          have he_v972 : 0 ≤ v972.toInt ∧ v972.toInt ≤ 7 := mz_elg (n := 8) (hIR.at 50) e_v972 rfl (by omega) (by omega)
          refine lv_imul hx hb dX13_weighRow_42 ?_
          refine tk_mul (show (8 : Int32).toInt = 8 by decide) rfl (by omega) (by omega) (fun v973 h_v973 => ?_)
          refine lv_aload_n hx hb dX13_weighRow_43 rfl (lv_at hl 3 rfl) ?_
          refine mz_getR hx hb htl hown hK hM 51 (Nat.le_of_ble_eq_true rfl) (Nat.le_of_ble_eq_true rfl) (htl _ mw_234) (fun _ h9 => h9) dX13_weighRow_44 ?_
          refine lv_iload hx hb dX13_weighRow_47 (lv_at hl 0 rfl) ?_
          refine mz_iald hx hb hK hM 51 (Nat.le_of_ble_eq_true rfl) rfl (nn := 8) rfl rfl (by omega) (by omega) dX13_weighRow_49 (fun v9 e9 => ?_)
          refine fx_ti (v := v952) (e9.symm.trans e_v952) ?_
          refine lv_iadd hx hb dX13_weighRow_50 ?_
          refine tk_add rfl rfl (by omega) (by omega) (fun v974 h_v974 => ?_)
          refine mz_iald hx hb hK hM 49 (Nat.le_of_ble_eq_true rfl) rfl (nn := 64) rfl rfl (by omega) (by omega) dX13_weighRow_51 (fun v975 e_v975 => ?_)
          have hq_v975 := tk_rng v975
          exact hj960 v975 _ (lv_sub hl [0, 1, 2, 3, 4] rfl)
        · have hc953 : v952.toInt = 8 := (fi_eq rfl (show (8 : Int32).toInt = 8 by decide)).mp c9
          refine lv_iconst (v := 0) hx hb dX13_weighRow_25 (by decide) ?_
          refine lv_goto (tgt := 52) hx hb dX13_weighRow_26 (by decide) ?_
          have hk_0 : (0 : Int32).toInt = 0 := by decide
          exact hj960 0 _ (lv_sub hl [0, 1, 2, 3, 4] rfl)
  have hk_0 : (0 : Int32).toInt = 0 := by decide
  have hk_0 : (0 : Int32).toInt = 0 := by decide
  have hk_0 : (0 : Int32).toInt = 0 := by decide
  exact hl849 9 0 0 0 (by omega) (by omega) (by omega) (by omega) (by omega) (by omega) _ (lv_sub hl [0, 1, 2, 3, 4] rfl)
