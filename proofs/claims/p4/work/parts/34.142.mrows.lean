theorem od_nn {f g : Nat → Int32} {K : Nat} {x : Int32} {k : Int} (h : ∀ j : Nat, (j : Int) < k → 0 ≤ (f j).toInt) (hU : g = upd f K x) (hK : (K : Int) = k) (hx : 0 ≤ x.toInt) : ∀ j : Nat, (j : Int) < k + 1 → 0 ≤ (g j).toInt := fun j hj => by
  rw [hU]
  by_cases e : j = K
  · rw [e, pk_us]
    exact hx
  · rw [pk_un e]
    exact h j (by omega)
theorem hd_yX13_isSpare : yX13_isSpare.cls ≠ "java/lang/invoke/MethodHandle" ∧ yX13_isSpare.cls ≠ "java/lang/invoke/VarHandle" ∧ (parseMethodDescriptor yX13_isSpare.desc).map (fun d => d.parameters.length) = some 1 := by decide +kernel
theorem hd_yX13_weighRow : yX13_weighRow.cls ≠ "java/lang/invoke/MethodHandle" ∧ yX13_weighRow.cls ≠ "java/lang/invoke/VarHandle" ∧ (parseMethodDescriptor yX13_weighRow.desc).map (fun d => d.parameters.length) = some 1 := by decide +kernel
theorem dX13_findChampions_0 : decode cX13_findChampions 0 = .ok (.iconst 0, 1) := by decide +kernel
theorem dX13_findChampions_1 : decode cX13_findChampions 1 = .ok (.istore_n 1, 1) := by decide +kernel
theorem dX13_findChampions_2 : decode cX13_findChampions 2 = .ok (.iconst 0, 1) := by decide +kernel
theorem dX13_findChampions_3 : decode cX13_findChampions 3 = .ok (.istore_n 2, 1) := by decide +kernel
theorem dX13_findChampions_4 : decode cX13_findChampions 4 = .ok (.iload_n 2, 1) := by decide +kernel
theorem dX13_findChampions_5 : decode cX13_findChampions 5 = .ok (.aload_n 0, 1) := by decide +kernel
theorem dX13_findChampions_6 : decode cX13_findChampions 6 = .ok (.getfield 13, 3) := by decide +kernel
theorem dX13_findChampions_9 : decode cX13_findChampions 9 = .ok (.iconst 0, 1) := by decide +kernel
theorem dX13_findChampions_10 : decode cX13_findChampions 10 = .ok (.iaload, 1) := by decide +kernel
theorem dX13_findChampions_11 : decode cX13_findChampions 11 = .ok (.if_icmp .ge 28, 3) := by decide +kernel
theorem dX13_findChampions_39 : decode cX13_findChampions 39 = .ok (.iconst 0, 1) := by decide +kernel
theorem dX13_findChampions_40 : decode cX13_findChampions 40 = .ok (.istore_n 2, 1) := by decide +kernel
theorem dX13_findChampions_41 : decode cX13_findChampions 41 = .ok (.iload_n 2, 1) := by decide +kernel
theorem dX13_findChampions_42 : decode cX13_findChampions 42 = .ok (.iload_n 1, 1) := by decide +kernel
theorem dX13_findChampions_43 : decode cX13_findChampions 43 = .ok (.if_icmp .ge 70, 3) := by decide +kernel
theorem dX13_findChampions_113 : decode cX13_findChampions 113 = .ok (.aload_n 0, 1) := by decide +kernel
theorem dX13_findChampions_114 : decode cX13_findChampions 114 = .ok (.iconst (-1), 1) := by decide +kernel
theorem dX13_findChampions_115 : decode cX13_findChampions 115 = .ok (.putfield 539, 3) := by decide +kernel
theorem dX13_findChampions_118 : decode cX13_findChampions 118 = .ok (.aload_n 0, 1) := by decide +kernel
theorem dX13_findChampions_119 : decode cX13_findChampions 119 = .ok (.iconst 0, 1) := by decide +kernel
theorem dX13_findChampions_120 : decode cX13_findChampions 120 = .ok (.putfield 542, 3) := by decide +kernel
theorem dX13_findChampions_123 : decode cX13_findChampions 123 = .ok (.iload_n 1, 1) := by decide +kernel
theorem dX13_findChampions_124 : decode cX13_findChampions 124 = .ok (.ifCond .ne 10, 3) := by decide +kernel
theorem dX13_findChampions_134 : decode cX13_findChampions 134 = .ok (.iconst 0, 1) := by decide +kernel
theorem dX13_findChampions_135 : decode cX13_findChampions 135 = .ok (.istore_n 2, 1) := by decide +kernel
theorem dX13_findChampions_136 : decode cX13_findChampions 136 = .ok (.aload_n 0, 1) := by decide +kernel
theorem dX13_findChampions_137 : decode cX13_findChampions 137 = .ok (.getfield 134, 3) := by decide +kernel
theorem dX13_findChampions_140 : decode cX13_findChampions 140 = .ok (.iconst 0, 1) := by decide +kernel
theorem dX13_findChampions_141 : decode cX13_findChampions 141 = .ok (.iconst (-1), 1) := by decide +kernel
theorem dX13_findChampions_142 : decode cX13_findChampions 142 = .ok (.iastore, 1) := by decide +kernel
theorem dX13_findChampions_143 : decode cX13_findChampions 143 = .ok (.iload_n 2, 1) := by decide +kernel
theorem dX13_findChampions_144 : decode cX13_findChampions 144 = .ok (.ifCond .lt 66, 3) := by decide +kernel
theorem dX13_findChampions_210 : decode cX13_findChampions 210 = .ok (.iload_n 1, 1) := by decide +kernel
theorem dX13_findChampions_211 : decode cX13_findChampions 211 = .ok (.ireturn, 1) := by decide +kernel
theorem dX13_findChampions_147 : decode cX13_findChampions 147 = .ok (.aload_n 0, 1) := by decide +kernel
theorem dX13_findChampions_148 : decode cX13_findChampions 148 = .ok (.getfield 134, 3) := by decide +kernel
theorem dX13_findChampions_151 : decode cX13_findChampions 151 = .ok (.iload_n 2, 1) := by decide +kernel
theorem dX13_findChampions_152 : decode cX13_findChampions 152 = .ok (.dup2, 1) := by decide +kernel
theorem dX13_findChampions_153 : decode cX13_findChampions 153 = .ok (.iaload, 1) := by decide +kernel
theorem dX13_findChampions_154 : decode cX13_findChampions 154 = .ok (.iconst 1, 1) := by decide +kernel
theorem dX13_findChampions_155 : decode cX13_findChampions 155 = .ok (.iadd, 1) := by decide +kernel
theorem dX13_findChampions_156 : decode cX13_findChampions 156 = .ok (.iastore, 1) := by decide +kernel
theorem dX13_findChampions_157 : decode cX13_findChampions 157 = .ok (.aload_n 0, 1) := by decide +kernel
theorem dX13_findChampions_158 : decode cX13_findChampions 158 = .ok (.getfield 134, 3) := by decide +kernel
theorem dX13_findChampions_161 : decode cX13_findChampions 161 = .ok (.iload_n 2, 1) := by decide +kernel
theorem dX13_findChampions_162 : decode cX13_findChampions 162 = .ok (.iaload, 1) := by decide +kernel
theorem dX13_findChampions_163 : decode cX13_findChampions 163 = .ok (.bipush 9, 2) := by decide +kernel
theorem dX13_findChampions_165 : decode cX13_findChampions 165 = .ok (.if_icmp .ne 9, 3) := by decide +kernel
theorem dX13_findChampions_174 : decode cX13_findChampions 174 = .ok (.aload_n 0, 1) := by decide +kernel
theorem dX13_findChampions_175 : decode cX13_findChampions 175 = .ok (.iload_n 2, 1) := by decide +kernel
theorem dX13_findChampions_176 : decode cX13_findChampions 176 = .ok (.invokevirtual 548, 3) := by decide +kernel
theorem dX13_findChampions_179 : decode cX13_findChampions 179 = .ok (.ifCond .eq (-36), 3) := by decide +kernel
theorem dX13_findChampions_182 : decode cX13_findChampions 182 = .ok (.iload_n 2, 1) := by decide +kernel
theorem dX13_findChampions_183 : decode cX13_findChampions 183 = .ok (.iload_n 1, 1) := by decide +kernel
theorem dX13_findChampions_184 : decode cX13_findChampions 184 = .ok (.iconst 1, 1) := by decide +kernel
theorem dX13_findChampions_185 : decode cX13_findChampions 185 = .ok (.isub, 1) := by decide +kernel
theorem dX13_findChampions_186 : decode cX13_findChampions 186 = .ok (.if_icmp .ne 11, 3) := by decide +kernel
theorem dX13_findChampions_197 : decode cX13_findChampions 197 = .ok (.iinc 2 1, 3) := by decide +kernel
theorem dX13_findChampions_200 : decode cX13_findChampions 200 = .ok (.aload_n 0, 1) := by decide +kernel
theorem dX13_findChampions_201 : decode cX13_findChampions 201 = .ok (.getfield 134, 3) := by decide +kernel
theorem dX13_findChampions_204 : decode cX13_findChampions 204 = .ok (.iload_n 2, 1) := by decide +kernel
theorem dX13_findChampions_205 : decode cX13_findChampions 205 = .ok (.iconst (-1), 1) := by decide +kernel
theorem dX13_findChampions_206 : decode cX13_findChampions 206 = .ok (.iastore, 1) := by decide +kernel
theorem dX13_findChampions_207 : decode cX13_findChampions 207 = .ok (.goto (-64), 3) := by decide +kernel
theorem dX13_findChampions_189 : decode cX13_findChampions 189 = .ok (.aload_n 0, 1) := by decide +kernel
theorem dX13_findChampions_190 : decode cX13_findChampions 190 = .ok (.iload_n 1, 1) := by decide +kernel
theorem dX13_findChampions_191 : decode cX13_findChampions 191 = .ok (.invokevirtual 545, 3) := by decide +kernel
theorem dX13_findChampions_194 : decode cX13_findChampions 194 = .ok (.goto (-51), 3) := by decide +kernel
theorem dX13_findChampions_168 : decode cX13_findChampions 168 = .ok (.iinc 2 (-1), 3) := by decide +kernel
theorem dX13_findChampions_171 : decode cX13_findChampions 171 = .ok (.goto (-28), 3) := by decide +kernel
theorem dX13_findChampions_127 : decode cX13_findChampions 127 = .ok (.aload_n 0, 1) := by decide +kernel
theorem dX13_findChampions_128 : decode cX13_findChampions 128 = .ok (.iconst 0, 1) := by decide +kernel
theorem dX13_findChampions_129 : decode cX13_findChampions 129 = .ok (.invokevirtual 545, 3) := by decide +kernel
theorem dX13_findChampions_132 : decode cX13_findChampions 132 = .ok (.iconst 0, 1) := by decide +kernel
theorem dX13_findChampions_133 : decode cX13_findChampions 133 = .ok (.ireturn, 1) := by decide +kernel
theorem dX13_findChampions_46 : decode cX13_findChampions 46 = .ok (.iconst 0, 1) := by decide +kernel
theorem dX13_findChampions_47 : decode cX13_findChampions 47 = .ok (.istore_n 3, 1) := by decide +kernel
theorem dX13_findChampions_48 : decode cX13_findChampions 48 = .ok (.iload_n 3, 1) := by decide +kernel
theorem dX13_findChampions_49 : decode cX13_findChampions 49 = .ok (.aload_n 0, 1) := by decide +kernel
theorem dX13_findChampions_50 : decode cX13_findChampions 50 = .ok (.getfield 13, 3) := by decide +kernel
theorem dX13_findChampions_53 : decode cX13_findChampions 53 = .ok (.iconst 0, 1) := by decide +kernel
theorem dX13_findChampions_54 : decode cX13_findChampions 54 = .ok (.iaload, 1) := by decide +kernel
theorem dX13_findChampions_55 : decode cX13_findChampions 55 = .ok (.if_icmp .ge 52, 3) := by decide +kernel
theorem dX13_findChampions_107 : decode cX13_findChampions 107 = .ok (.iinc 2 1, 3) := by decide +kernel
theorem dX13_findChampions_110 : decode cX13_findChampions 110 = .ok (.goto (-69), 3) := by decide +kernel
theorem dX13_findChampions_58 : decode cX13_findChampions 58 = .ok (.aload_n 0, 1) := by decide +kernel
theorem dX13_findChampions_59 : decode cX13_findChampions 59 = .ok (.getfield 128, 3) := by decide +kernel
theorem dX13_findChampions_62 : decode cX13_findChampions 62 = .ok (.bipush 8, 2) := by decide +kernel
theorem dX13_findChampions_64 : decode cX13_findChampions 64 = .ok (.aload_n 0, 1) := by decide +kernel
theorem dX13_findChampions_65 : decode cX13_findChampions 65 = .ok (.getfield 131, 3) := by decide +kernel
theorem dX13_findChampions_68 : decode cX13_findChampions 68 = .ok (.iload_n 2, 1) := by decide +kernel
theorem dX13_findChampions_69 : decode cX13_findChampions 69 = .ok (.iaload, 1) := by decide +kernel
theorem dX13_findChampions_70 : decode cX13_findChampions 70 = .ok (.imul, 1) := by decide +kernel
theorem dX13_findChampions_71 : decode cX13_findChampions 71 = .ok (.iload_n 3, 1) := by decide +kernel
theorem dX13_findChampions_72 : decode cX13_findChampions 72 = .ok (.iadd, 1) := by decide +kernel
theorem dX13_findChampions_73 : decode cX13_findChampions 73 = .ok (.aload_n 0, 1) := by decide +kernel
theorem dX13_findChampions_74 : decode cX13_findChampions 74 = .ok (.iload_n 3, 1) := by decide +kernel
theorem dX13_findChampions_75 : decode cX13_findChampions 75 = .ok (.iconst 2, 1) := by decide +kernel
theorem dX13_findChampions_76 : decode cX13_findChampions 76 = .ok (.invokevirtual 207, 3) := by decide +kernel
theorem dX13_findChampions_79 : decode cX13_findChampions 79 = .ok (.iconst 1, 1) := by decide +kernel
theorem dX13_findChampions_100 : decode cX13_findChampions 100 = .ok (.iastore, 1) := by decide +kernel
theorem dX13_findChampions_101 : decode cX13_findChampions 101 = .ok (.iinc 3 1, 3) := by decide +kernel
theorem dX13_findChampions_104 : decode cX13_findChampions 104 = .ok (.goto (-56), 3) := by decide +kernel
theorem dX13_findChampions_80 : decode cX13_findChampions 80 = .ok (.if_icmp .ne 19, 3) := by decide +kernel
theorem dX13_findChampions_99 : decode cX13_findChampions 99 = .ok (.iconst 0, 1) := by decide +kernel
theorem dX13_findChampions_83 : decode cX13_findChampions 83 = .ok (.aload_n 0, 1) := by decide +kernel
theorem dX13_findChampions_84 : decode cX13_findChampions 84 = .ok (.aload_n 0, 1) := by decide +kernel
theorem dX13_findChampions_85 : decode cX13_findChampions 85 = .ok (.getfield 131, 3) := by decide +kernel
theorem dX13_findChampions_88 : decode cX13_findChampions 88 = .ok (.iload_n 2, 1) := by decide +kernel
theorem dX13_findChampions_89 : decode cX13_findChampions 89 = .ok (.iaload, 1) := by decide +kernel
theorem dX13_findChampions_90 : decode cX13_findChampions 90 = .ok (.iload_n 3, 1) := by decide +kernel
theorem dX13_findChampions_91 : decode cX13_findChampions 91 = .ok (.iconst (-1), 1) := by decide +kernel
theorem dX13_findChampions_92 : decode cX13_findChampions 92 = .ok (.iconst (-1), 1) := by decide +kernel
theorem dX13_findChampions_93 : decode cX13_findChampions 93 = .ok (.invokevirtual 535, 3) := by decide +kernel
theorem dX13_findChampions_96 : decode cX13_findChampions 96 = .ok (.goto 4, 3) := by decide +kernel
theorem dX13_findChampions_14 : decode cX13_findChampions 14 = .ok (.aload_n 0, 1) := by decide +kernel
theorem dX13_findChampions_15 : decode cX13_findChampions 15 = .ok (.iload_n 2, 1) := by decide +kernel
theorem dX13_findChampions_16 : decode cX13_findChampions 16 = .ok (.iconst 2, 1) := by decide +kernel
theorem dX13_findChampions_17 : decode cX13_findChampions 17 = .ok (.invokevirtual 207, 3) := by decide +kernel
theorem dX13_findChampions_33 : decode cX13_findChampions 33 = .ok (.iinc 2 1, 3) := by decide +kernel
theorem dX13_findChampions_36 : decode cX13_findChampions 36 = .ok (.goto (-32), 3) := by decide +kernel
theorem dX13_findChampions_20 : decode cX13_findChampions 20 = .ok (.ifCond .ne 13, 3) := by decide +kernel
theorem dX13_findChampions_23 : decode cX13_findChampions 23 = .ok (.aload_n 0, 1) := by decide +kernel
theorem dX13_findChampions_24 : decode cX13_findChampions 24 = .ok (.getfield 131, 3) := by decide +kernel
theorem dX13_findChampions_27 : decode cX13_findChampions 27 = .ok (.iload_n 1, 1) := by decide +kernel
theorem dX13_findChampions_28 : decode cX13_findChampions 28 = .ok (.iload_n 2, 1) := by decide +kernel
theorem dX13_findChampions_29 : decode cX13_findChampions 29 = .ok (.iastore, 1) := by decide +kernel
theorem dX13_findChampions_30 : decode cX13_findChampions 30 = .ok (.iinc 1 1, 3) := by decide +kernel
set_option maxHeartbeats 4000000 in
set_option maxRecDepth 100000 in
theorem k_X13_findChampions (l : Launch) (D : va_G) (cy : Nat → ClassId) (ld ad : Nat → Nat) (am : Nat) (hD : mz_D ad am) (Fa : Nat → Int32) (Ga : Nat → Int64) (Ra : Nat → Nat → Int32) (Sa : Nat → Nat → Int64) (g0 : Int32) (hIF : mz_IF true Fa) (hIG : mz_IG Ga) (hIR : mz_IR [] true Ra) (hg_0 : Ra 3 0 = g0) : Met l yX13_findChampions (wl yX13_findChampions cX13_findChampions 4 (some .int)) ({ frames := 13, cells := 0, slots := 0, locals := 840 }) (mz_p D cy ld ad am Fa Ga Ra Sa [.ref am]) (mz_i D cy ad am (fun r F G R S => mz_IF true F ∧ mz_IG G ∧ mz_IR [] true R ∧ (∀ k : Nat, k ∉ ([34, 38, 41, 53, 54] : List Nat) → F k = Fa k) ∧ (∀ k : Nat, k ∉ ([3, 6, 49, 50, 51, 52] : List Nat) → R k = Ra k) ∧ (∀ k : Nat, k ∉ ([39, 40, 47] : List Nat) → G k = Ga k) ∧ rK1 (Ra 3) (R 3) ∧ 0 ≤ r.toInt ∧ r.toInt ≤ 8 ∧ 0 ≤ r.toInt ∧ r.toInt ≤ 8)) 0 0 (mz_W ad am) := by
  refine mz_met (y := yX13_findChampions) (cc := cX13_findChampions) (maxL := 4) (ret := (some .int)) (av := [.ref am]) _ (by decide) (Nat.le_of_ble_eq_true rfl) ?_
  intro p e s m args below meth c hx hb hr hml hts htl hown hlocks hK H locs hM hS ls hl
  have hown : s.vm.findClass RX13 = some m.cls := hown
  have hl : lv_has ls 4 [(0, .ref am)] := hl
  have hq_g0 := tk_rng g0
  have hr_g0 : 0 ≤ g0.toInt ∧ g0.toInt ≤ 8 := by have h9 := mz_r3c 0 (hIR.at 3) hg_0 (by decide); unfold mE at h9; omega
  refine lv_iconst (v := 0) hx hb dX13_findChampions_0 (by decide) ?_
  refine lv_istore_n (lv' := [(1, .int 0), (0, .ref am)]) hx hb dX13_findChampions_1 rfl hl (by decide) rfl (fun ls hl => ?_)
  refine lv_iconst (v := 0) hx hb dX13_findChampions_2 (by decide) ?_
  refine lv_istore_n (lv' := [(2, .int 0), (1, .int 0), (0, .ref am)]) hx hb dX13_findChampions_3 rfl hl (by decide) rfl (fun ls hl => ?_)
  have hl30914 : ∀ (N_l30914 : Nat) (v10103 : Int32) (v10104 : Int32) (H : Heap) (locs : List Loc) (R : Nat → Nat → Int32), (0 ≤ v10104.toInt) → (0 ≤ v10103.toInt + (-1) * v10104.toInt) → (0 ≤ g0.toInt + (-1) * v10103.toInt) → (mz_S D cy ad am Fa Ga R Sa H) → (va_S (mz_W ad am) s.heap H locs) → (mz_IR [] true R) → (∀ k : Nat, k ∉ ([3, 6, 49, 50, 51, 52] : List Nat) → R k = Ra k) → (rK1 (Ra 3) (R 3)) → (R 3 0 = g0) → ((-1) * v10103.toInt + 8 < (N_l30914 : Int)) → ∀ ls : Array Slot, lv_has ls 4 [(2, .int v10103), (1, .int v10104), (0, .ref am)] → W p l e ({ frames := 13, cells := 0, slots := 0, locals := 840 }) s m args below meth c H locs 0 0 (MQ below (mz_i D cy ad am (fun r F G R S => mz_IF true F ∧ mz_IG G ∧ mz_IR [] true R ∧ (∀ k : Nat, k ∉ ([34, 38, 41, 53, 54] : List Nat) → F k = Fa k) ∧ (∀ k : Nat, k ∉ ([3, 6, 49, 50, 51, 52] : List Nat) → R k = Ra k) ∧ (∀ k : Nat, k ∉ ([39, 40, 47] : List Nat) → G k = Ga k) ∧ rK1 (Ra 3) (R 3) ∧ 0 ≤ r.toInt ∧ r.toInt ≤ 8 ∧ 0 ≤ r.toInt ∧ r.toInt ≤ 8)) args s 0 0 (mz_W ad am)) (F0 m 4 ls []) := by
    intro N_l30914
    induction N_l30914 with
    | zero => intro v10103 v10104 H locs R hq0_l30914 hq1_l30914 hq2_l30914 hM hS hIR hRR hrel hg_0 hm_l30914 ls hl; exfalso; omega
    | succ N_l30914 ih_l30914 =>
      intro v10103 v10104 H locs R hq0_l30914 hq1_l30914 hq2_l30914 hM hS hIR hRR hrel hg_0 hm_l30914 ls hl
      refine lv_iload_n hx hb dX13_findChampions_4 rfl (lv_at hl 0 rfl) ?_
      refine lv_aload_n hx hb dX13_findChampions_5 rfl (lv_at hl 2 rfl) ?_
      refine mz_getR hx hb htl hown hK hM 3 (Nat.le_of_ble_eq_true rfl) (Nat.le_of_ble_eq_true rfl) (htl _ mw_188) (fun _ h9 => h9) dX13_findChampions_6 ?_
      refine lv_iconst (v := 0) hx hb dX13_findChampions_9 (by decide) ?_
      refine mz_iald hx hb hK hM 3 (Nat.le_of_ble_eq_true rfl) rfl (nn := 5560) rfl (I := 0) (by decide) (by decide) (by decide) dX13_findChampions_10 (fun v9 e9 => ?_)
      refine fx_ti (v := g0) (e9.symm.trans (show R 3 (0 : Int32).toNatClampNeg = _ from hg_0)) ?_
      refine lv_icmp_ge (tgt := 39) hx hb dX13_findChampions_11 (by decide) (fun c9 => ?_) (fun c9 => ?_)
      · have hc30915 : g0.toInt ≤ v10103.toInt := (fi_le rfl rfl).mp c9
        refine lv_iconst (v := 0) hx hb dX13_findChampions_39 (by decide) ?_
        refine lv_istore_n (lv' := [(2, .int 0), (1, .int v10104), (0, .ref am)]) hx hb dX13_findChampions_40 rfl hl (by decide) rfl (fun ls hl => ?_)
        have hl34562 : ∀ (N_l34562 : Nat) (v30933 : Int32) (H : Heap) (locs : List Loc) (F : Nat → Int32) (G : Nat → Int64) (R : Nat → Nat → Int32) (S : Nat → Nat → Int64), (0 ≤ v30933.toInt) → (0 ≤ v10104.toInt + (-1) * v30933.toInt) → (mz_S D cy ad am F G R S H) → (va_S (mz_W ad am) s.heap H locs) → (mz_IF true F) → (mz_IG G) → (mz_IR [] true R) → (∀ k : Nat, k ∉ ([34, 38, 41, 53, 54] : List Nat) → F k = Fa k) → (∀ k : Nat, k ∉ ([39, 40, 47] : List Nat) → G k = Ga k) → (∀ k : Nat, k ∉ ([3, 6, 49, 50, 51, 52] : List Nat) → R k = Ra k) → (rK1 (Ra 3) (R 3)) → (R 3 0 = g0) → ((-1) * v30933.toInt + 8 < (N_l34562 : Int)) → ∀ ls : Array Slot, lv_has ls 4 [(2, .int v30933), (1, .int v10104), (0, .ref am)] → W p l e ({ frames := 13, cells := 0, slots := 0, locals := 840 }) s m args below meth c H locs 0 0 (MQ below (mz_i D cy ad am (fun r F G R S => mz_IF true F ∧ mz_IG G ∧ mz_IR [] true R ∧ (∀ k : Nat, k ∉ ([34, 38, 41, 53, 54] : List Nat) → F k = Fa k) ∧ (∀ k : Nat, k ∉ ([3, 6, 49, 50, 51, 52] : List Nat) → R k = Ra k) ∧ (∀ k : Nat, k ∉ ([39, 40, 47] : List Nat) → G k = Ga k) ∧ rK1 (Ra 3) (R 3) ∧ 0 ≤ r.toInt ∧ r.toInt ≤ 8 ∧ 0 ≤ r.toInt ∧ r.toInt ≤ 8)) args s 0 0 (mz_W ad am)) (F0 m 41 ls []) := by
          intro N_l34562
          induction N_l34562 with
          | zero => intro v30933 H locs F G R S hq0_l34562 hq1_l34562 hM hS hIF hIG hIR hFF hGG hRR hrel hg_0 hm_l34562 ls hl; exfalso; omega
          | succ N_l34562 ih_l34562 =>
            intro v30933 H locs F G R S hq0_l34562 hq1_l34562 hM hS hIF hIG hIR hFF hGG hRR hrel hg_0 hm_l34562 ls hl
            refine lv_iload_n hx hb dX13_findChampions_41 rfl (lv_at hl 0 rfl) ?_
            refine lv_iload_n hx hb dX13_findChampions_42 rfl (lv_at hl 1 rfl) ?_
            refine lv_icmp_ge (tgt := 113) hx hb dX13_findChampions_43 (by decide) (fun c9 => ?_) (fun c9 => ?_)
            · have hc34563 : v10104.toInt ≤ v30933.toInt := (fi_le rfl rfl).mp c9
              refine lv_aload_n hx hb dX13_findChampions_113 rfl (lv_at hl 2 rfl) ?_
              refine lv_iconst (v := (-1)) hx hb dX13_findChampions_114 (by decide) ?_
              have hk_m1 : ((-1) : Int32).toInt = (-1) := by decide
              refine mz_putI (ty := .int) (x := (-1)) hx hb htl hown hK hD hM hS 53 (Nat.le_of_ble_eq_true rfl) rfl (htl _ mw_1433) (fun _ h9 => h9) rfl (tyX13_ok 53 (by decide)) rfl rfl dX13_findChampions_115 (fun H locs F hM hS hf9 hj9 => ?_)
              have hIF := hIF.put hf9 hj9 (tk_rng _).1 (tk_rng _).2 (by decide)
              have hFF := mz_frp (K := [34, 38, 41, 53, 54]) (Fa := Fa) hj9 hFF (by decide)
              have hf34892 := hf9
              refine lv_aload_n hx hb dX13_findChampions_118 rfl (lv_at hl 2 rfl) ?_
              refine lv_iconst (v := 0) hx hb dX13_findChampions_119 (by decide) ?_
              have hk_0 : (0 : Int32).toInt = 0 := by decide
              refine mz_putI (ty := .int) (x := 0) hx hb htl hown hK hD hM hS 54 (Nat.le_of_ble_eq_true rfl) rfl (htl _ mw_1434) (fun _ h9 => h9) rfl (tyX13_ok 54 (by decide)) rfl rfl dX13_findChampions_120 (fun H locs F hM hS hf9 hj9 => ?_)
              have hIF := hIF.put hf9 hj9 (tk_rng _).1 (tk_rng _).2 (by decide)
              have hFF := mz_frp (K := [34, 38, 41, 53, 54]) (Fa := Fa) hj9 hFF (by decide)
              have hf34892 := (hj9 53 (by decide)).trans hf34892
              have hf34894 := hf9
              refine lv_iload_n hx hb dX13_findChampions_123 rfl (lv_at hl 1 rfl) ?_
              refine lv_if_ne (tgt := 134) hx hb dX13_findChampions_124 (by decide) (fun c9 => ?_) (fun c9 => ?_)
              · have hc34895 : ¬ (v10104.toInt = 0) := fun h9 => c9 ((fi_eq rfl (show (0 : Int32).toInt = 0 by decide)).mpr h9)
                refine lv_iconst (v := 0) hx hb dX13_findChampions_134 (by decide) ?_
                refine lv_istore_n (lv' := [(2, .int 0), (1, .int v10104), (0, .ref am)]) hx hb dX13_findChampions_135 rfl hl (by decide) rfl (fun ls hl => ?_)
                refine lv_aload_n hx hb dX13_findChampions_136 rfl (lv_at hl 2 rfl) ?_
                refine mz_getR hx hb htl hown hK hM 51 (Nat.le_of_ble_eq_true rfl) (Nat.le_of_ble_eq_true rfl) (htl _ mw_234) (fun _ h9 => h9) dX13_findChampions_137 ?_
                refine lv_iconst (v := 0) hx hb dX13_findChampions_140 (by decide) ?_
                refine lv_iconst (v := (-1)) hx hb dX13_findChampions_141 (by decide) ?_
                have hk_0 : (0 : Int32).toInt = 0 := by decide
                have hk_m1 : ((-1) : Int32).toInt = (-1) := by decide
                refine mz_iast (x := (-1)) hx hb hK hD hM hS 51 (Nat.le_of_ble_eq_true rfl) rfl (nn := 8) rfl (I := 0) (by decide) (by decide) (by decide) dX13_findChampions_142 (fun H locs R hM hS hw9 hj9 => ?_)
                have hIR := hIR.put hw9 hj9 trivial
                have hRR := mz_frp (K := [3, 6, 49, 50, 51, 52]) (Fa := Ra) hj9 hRR (by decide)
                have hrel : rK1 (Ra 3) (R 3) := (hj9 3 (by decide)) ▸ hrel
                have hg_0 : R 3 0 = _ := (congrFun (hj9 3 (by decide)) 0).trans hg_0
                have hf34897 : R 51 0 = (-1) := (congrFun hw9 0).trans pk_us
                have hl35114 : ∀ (N_l35114 : Nat) (v34898 : Int32) (H : Heap) (locs : List Loc) (F : Nat → Int32) (G : Nat → Int64) (R : Nat → Nat → Int32) (S : Nat → Nat → Int64), ((-1) ≤ v34898.toInt) → (0 ≤ v10104.toInt + (-1) * v34898.toInt + (-1)) → (mz_S D cy ad am F G R S H) → (va_S (mz_W ad am) s.heap H locs) → (mz_IF true F) → (mz_IG G) → (mz_IR [] true R) → (∀ k : Nat, k ∉ ([34, 38, 41, 53, 54] : List Nat) → F k = Fa k) → (∀ k : Nat, k ∉ ([39, 40, 47] : List Nat) → G k = Ga k) → (∀ k : Nat, k ∉ ([3, 6, 49, 50, 51, 52] : List Nat) → R k = Ra k) → (rK1 (Ra 3) (R 3)) → (R 3 0 = g0) → (∀ j : Nat, (j : Int) ≤ v34898.toInt → -1 ≤ (R 51 j).toInt ∧ (R 51 j).toInt ≤ 8) → (∀ j : Nat, (j : Int) < v34898.toInt → 0 ≤ (R 51 j).toInt) → (oM (R 51) 9 11 7 (v34898.toInt + 1).toNat < (N_l35114 : Int)) → ∀ ls : Array Slot, lv_has ls 4 [(2, .int v34898), (1, .int v10104), (0, .ref am)] → W p l e ({ frames := 13, cells := 0, slots := 0, locals := 840 }) s m args below meth c H locs 0 0 (MQ below (mz_i D cy ad am (fun r F G R S => mz_IF true F ∧ mz_IG G ∧ mz_IR [] true R ∧ (∀ k : Nat, k ∉ ([34, 38, 41, 53, 54] : List Nat) → F k = Fa k) ∧ (∀ k : Nat, k ∉ ([3, 6, 49, 50, 51, 52] : List Nat) → R k = Ra k) ∧ (∀ k : Nat, k ∉ ([39, 40, 47] : List Nat) → G k = Ga k) ∧ rK1 (Ra 3) (R 3) ∧ 0 ≤ r.toInt ∧ r.toInt ≤ 8 ∧ 0 ≤ r.toInt ∧ r.toInt ≤ 8)) args s 0 0 (mz_W ad am)) (F0 m 143 ls []) := by
                  intro N_l35114
                  induction N_l35114 with
                  | zero => intro v34898 H locs F G R S hq0_l35114 hq1_l35114 hM hS hIF hIG hIR hFF hGG hRR hrel hg_0 hod hnn hm_l35114 ls hl; exfalso; have h9 := oM.nn (f := R 51) (b := 9) (c := 11) (n := 7) (v34898.toInt + 1).toNat (fun j hj => by have := (hod j (by omega)).2; omega); omega
                  | succ N_l35114 ih_l35114 =>
                    intro v34898 H locs F G R S hq0_l35114 hq1_l35114 hM hS hIF hIG hIR hFF hGG hRR hrel hg_0 hod hnn hm_l35114 ls hl
                    refine lv_iload_n hx hb dX13_findChampions_143 rfl (lv_at hl 0 rfl) ?_
                    refine lv_if_lt (tgt := 210) hx hb dX13_findChampions_144 (by decide) (fun c9 => ?_) (fun c9 => ?_)
                    · have hc35115 : v34898.toInt < 0 := (fi_lt rfl (show (0 : Int32).toInt = 0 by decide)).mp c9
                      refine lv_iload_n hx hb dX13_findChampions_210 rfl (lv_at hl 1 rfl) ?_
                      exact mz_iret (v := v10104) hx hb hr rfl hlocks ⟨hIF, hIG, hIR, hFF, hRR, hGG, hrel, (by omega), (by omega), (by omega), (by omega)⟩ hM hS dX13_findChampions_211
                    · have hc35115 : ¬ (v34898.toInt < 0) := fun h9 => c9 ((fi_lt rfl (show (0 : Int32).toInt = 0 by decide)).mpr h9)
                      refine lv_aload_n hx hb dX13_findChampions_147 rfl (lv_at hl 2 rfl) ?_
                      obtain ⟨f9, ef9⟩ : ∃ z : Nat → Int32, R 51 = z := ⟨_, rfl⟩
                      have hod9 := hod
                      rw [ef9] at hod9
                      have hm9 := hm_l35114
                      rw [ef9] at hm9
                      have hnn9 := hnn
                      rw [ef9] at hnn9
                      refine mz_getR hx hb htl hown hK hM 51 (Nat.le_of_ble_eq_true rfl) (Nat.le_of_ble_eq_true rfl) (htl _ mw_234) (fun _ h9 => h9) dX13_findChampions_148 ?_
                      refine lv_iload_n hx hb dX13_findChampions_151 rfl (lv_at hl 0 rfl) ?_
                      refine lv_dup2_11 hx hb dX13_findChampions_152 rfl rfl ?_
                      refine mz_iald hx hb hK hM 51 (Nat.le_of_ble_eq_true rfl) rfl (nn := 8) rfl rfl (by omega) (by omega) dX13_findChampions_153 (fun v35135 e_v35135 => ?_)
                      have hq_v35135 := tk_rng v35135
                      have hfk : f9 v34898.toInt.toNat = v35135 := by rw [← ef9]; exact e_v35135
                      have hdg : -1 ≤ v35135.toInt ∧ v35135.toInt ≤ 8 := by have h9 := hod9 v34898.toInt.toNat (by omega); rw [hfk] at h9; exact h9
                      refine lv_iconst (v := 1) hx hb dX13_findChampions_154 (by decide) ?_
                      refine lv_iadd hx hb dX13_findChampions_155 ?_
                      refine tk_add rfl (show (1 : Int32).toInt = 1 by decide) (by omega) (by omega) (fun v35136 h_v35136 => ?_)
                      refine mz_iast (x := v35136) hx hb hK hD hM hS 51 (Nat.le_of_ble_eq_true rfl) rfl (nn := 8) rfl rfl (by omega) (by omega) dX13_findChampions_156 (fun H locs R hM hS hw9 hj9 => ?_)
                      have hIR := hIR.put hw9 hj9 trivial
                      have hU1 : R 51 = upd f9 v34898.toInt.toNat v35136 := by rw [hw9, ef9]; rfl
                      have hRR := mz_frp (K := [3, 6, 49, 50, 51, 52]) (Fa := Ra) hj9 hRR (by decide)
                      have hrel : rK1 (Ra 3) (R 3) := (hj9 3 (by decide)) ▸ hrel
                      have hg_0 : R 3 0 = _ := (congrFun (hj9 3 (by decide)) 0).trans hg_0
                      have em35137 : R 51 (v34898 : Int32).toNatClampNeg = v35136 := (congrFun hw9 _).trans pk_us
                      refine lv_aload_n hx hb dX13_findChampions_157 rfl (lv_at hl 2 rfl) ?_
                      refine mz_getR hx hb htl hown hK hM 51 (Nat.le_of_ble_eq_true rfl) (Nat.le_of_ble_eq_true rfl) (htl _ mw_234) (fun _ h9 => h9) dX13_findChampions_158 ?_
                      refine lv_iload_n hx hb dX13_findChampions_161 rfl (lv_at hl 0 rfl) ?_
                      refine mz_iald hx hb hK hM 51 (Nat.le_of_ble_eq_true rfl) rfl (nn := 8) rfl rfl (by omega) (by omega) dX13_findChampions_162 (fun v9 e9 => ?_)
                      refine fx_ti (v := v35136) (e9.symm.trans em35137) ?_
                      refine lv_bipush (v := 9) hx hb dX13_findChampions_163 (by decide) ?_
                      refine lv_icmp_ne (tgt := 174) hx hb dX13_findChampions_165 (by decide) (fun c9 => ?_) (fun c9 => ?_)
                      · have hc35139 : ¬ (v35136.toInt = 9) := fun h9 => c9 ((fi_eq rfl (show (9 : Int32).toInt = 9 by decide)).mpr h9)
                        refine lv_aload_n hx hb dX13_findChampions_174 rfl (lv_at hl 2 rfl) ?_
                        refine lv_iload_n hx hb dX13_findChampions_175 rfl (lv_at hl 0 rfl) ?_
                        refine mz_Vj (As := [.int v34898]) (rest := []) ⟨hx, hb, hml, hown, hts⟩ hK hM hS (k_X13_isSpare l D cy ld ad am hD _ _ _ _ v34898 (hIF.weak) hIG hIR (by omega) (by omega)) ⟨callB_of 1 hts (wl_in mw_1446) rfl rfl rfl (htl _ mw_5) (htl _ mw_1443) hd_yX13_isSpare ⟨(Nat.le_of_ble_eq_true rfl), (Nat.le_of_ble_eq_true rfl)⟩, htl _ mw_1444, htl _ mw_1445⟩ rfl hl.1 rfl (Nat.le_of_ble_eq_true rfl) dX13_findChampions_176 ⟨(Nat.le_of_ble_eq_true rfl), (Nat.le_of_ble_eq_true rfl)⟩ (fun v35140 H locs hpo hM hS => ?_)
                        obtain ⟨hpo35141, hpo35142, hpo35143, hpo35144⟩ := hpo
                        have hq_v35140 := tk_rng v35140
                        refine lv_if_eq (tgt := 143) hx hb dX13_findChampions_179 (by decide) (fun c9 => ?_) (fun c9 => ?_)
                        · have hc35146 : v35140.toInt = 0 := (fi_eq rfl (show (0 : Int32).toInt = 0 by decide)).mp c9
                          exact ih_l35114 v34898 _ _ _ _ _ _ (by omega) (by omega) hM hS hIF hIG hIR hFF hGG hRR hrel hg_0 (od_r1 hod9 hU1 (by omega) (by omega)) (fun j hj => od_nn hnn9 hU1 (by omega) (by omega) j (by omega)) (od_st hm9 (by omega) hU1 (by rw [hfk]; omega) (by decide)) _ (lv_sub hl [0, 1, 2] rfl)
                        · have hc35146 : ¬ (v35140.toInt = 0) := fun h9 => c9 ((fi_eq rfl (show (0 : Int32).toInt = 0 by decide)).mpr h9)
                          refine lv_iload_n hx hb dX13_findChampions_182 rfl (lv_at hl 0 rfl) ?_
                          refine lv_iload_n hx hb dX13_findChampions_183 rfl (lv_at hl 1 rfl) ?_
                          refine lv_iconst (v := 1) hx hb dX13_findChampions_184 (by decide) ?_
                          refine lv_isub hx hb dX13_findChampions_185 ?_
                          refine tk_sub rfl (show (1 : Int32).toInt = 1 by decide) (by omega) (by omega) (fun v35147 h_v35147 => ?_)
                          refine lv_icmp_ne (tgt := 197) hx hb dX13_findChampions_186 (by decide) (fun c9 => ?_) (fun c9 => ?_)
                          · have hc35148 : ¬ (v34898.toInt = v35147.toInt) := fun h9 => c9 ((fi_eq rfl rfl).mpr h9)
                            obtain ⟨v35149, h_v35149, e_v35149⟩ := tk_inc v34898 1 (by decide) (by omega) (by omega)
                            refine lv_iinc (v := v35149) (lv' := [(2, .int v35149), (1, .int v10104), (0, .ref am)]) hx hb dX13_findChampions_197 hl (k := 0) rfl e_v35149 (by decide) rfl (fun ls hl => ?_)
                            refine lv_aload_n hx hb dX13_findChampions_200 rfl (lv_at hl 2 rfl) ?_
                            refine mz_getR hx hb htl hown hK hM 51 (Nat.le_of_ble_eq_true rfl) (Nat.le_of_ble_eq_true rfl) (htl _ mw_234) (fun _ h9 => h9) dX13_findChampions_201 ?_
                            refine lv_iload_n hx hb dX13_findChampions_204 rfl (lv_at hl 0 rfl) ?_
                            refine lv_iconst (v := (-1)) hx hb dX13_findChampions_205 (by decide) ?_
                            have hk_m1 : ((-1) : Int32).toInt = (-1) := by decide
                            refine mz_iast (x := (-1)) hx hb hK hD hM hS 51 (Nat.le_of_ble_eq_true rfl) rfl (nn := 8) rfl rfl (by omega) (by omega) dX13_findChampions_206 (fun H locs R hM hS hw9 hj9 => ?_)
                            have hIR := hIR.put hw9 hj9 trivial
                            have hU2 : R 51 = upd (upd f9 v34898.toInt.toNat v35136) (v34898.toInt.toNat + 1) (-1) := by rw [hw9, hU1, show (v35149 : Int32).toNatClampNeg = v34898.toInt.toNat + 1 by show v35149.toInt.toNat = _; omega]
                            have hk_m1 : ((-1) : Int32).toInt = (-1) := by decide
                            have hRR := mz_frp (K := [3, 6, 49, 50, 51, 52]) (Fa := Ra) hj9 hRR (by decide)
                            have hrel : rK1 (Ra 3) (R 3) := (hj9 3 (by decide)) ▸ hrel
                            have hg_0 : R 3 0 = _ := (congrFun (hj9 3 (by decide)) 0).trans hg_0
                            have em35150 : R 51 (v35149 : Int32).toNatClampNeg = (-1) := (congrFun hw9 _).trans pk_us
                            refine lv_goto (tgt := 143) hx hb dX13_findChampions_207 (by decide) ?_
                            exact ih_l35114 v35149 _ _ _ _ _ _ (by omega) (by omega) hM hS hIF hIG hIR hFF hGG hRR hrel hg_0 (od_r2 hod9 hU2 (by omega) (by omega) (by omega) (by omega) (by omega) (by omega)) (fun j hj => by rw [hU2, pk_un (by omega)]; exact od_nn hnn9 rfl (by omega) (by omega) j (by omega)) (od_up hm9 (by omega) (by omega) hU2 (by rw [hfk]; omega) (by omega) (by decide) (by decide) (by omega)) _ (lv_sub hl [0, 1, 2] rfl)
                          · have hc35148 : v34898.toInt = v35147.toInt := (fi_eq rfl rfl).mp c9
                            refine lv_aload_n hx hb dX13_findChampions_189 rfl (lv_at hl 2 rfl) ?_
                            refine lv_iload_n hx hb dX13_findChampions_190 rfl (lv_at hl 1 rfl) ?_
                            refine mz_Vv (As := [.int v10104]) (rest := []) ⟨hx, hb, hml, hown, hts⟩ hK hM hS (k_X13_weighRow l D cy ld ad am hD _ _ _ _ v10104 hIF hIG hIR (by omega) (by omega) (fun j hj => ⟨od_nn hnn9 hU1 (by omega) (by omega) j (by omega), (od_r1 hod9 hU1 (by omega) (by omega) j (by omega)).2⟩)) ⟨callB_of 1 hts (wl_in mw_1442) rfl rfl rfl (htl _ mw_5) (htl _ mw_1439) hd_yX13_weighRow ⟨(Nat.le_of_ble_eq_true rfl), (Nat.le_of_ble_eq_true rfl)⟩, htl _ mw_1440, htl _ mw_1441⟩ rfl hl.1 rfl (Nat.le_of_ble_eq_true rfl) dX13_findChampions_191 ⟨(Nat.le_of_ble_eq_true rfl), (Nat.le_of_ble_eq_true rfl)⟩ (fun H locs F G R S hpo hM hS => ?_)
                            obtain ⟨hIF, hIG, hIR, hfr9, hrr9, hgr9⟩ := hpo
                            have hFF := mz_fr (K := [34, 38, 41, 53, 54]) (Fa := Fa) hfr9 hFF (by decide)
                            have hRR := mz_fr (K := [3, 6, 49, 50, 51, 52]) (Fa := Ra) hrr9 hRR (by decide)
                            have hGG := mz_fr (K := [39, 40, 47]) (Fa := Ga) hgr9 hGG (by decide)
                            have hrel : rK1 (Ra 3) (R 3) := hrel.trans (rK1.refl (hrr9 3 (by decide)))
                            have em35137 : R 51 (v34898 : Int32).toNatClampNeg = _ := (congrFun (hrr9 51 (by decide)) _).trans em35137
                            have hg_0 : R 3 0 = _ := (congrFun (hrr9 3 (by decide)) 0).trans hg_0
                            have hU1 := (hrr9 51 (by decide)).trans hU1
                            refine lv_goto (tgt := 143) hx hb dX13_findChampions_194 (by decide) ?_
                            exact ih_l35114 v34898 _ _ _ _ _ _ (by omega) (by omega) hM hS hIF hIG hIR hFF hGG hRR hrel hg_0 (od_r1 hod9 hU1 (by omega) (by omega)) (fun j hj => od_nn hnn9 hU1 (by omega) (by omega) j (by omega)) (od_st hm9 (by omega) hU1 (by rw [hfk]; omega) (by decide)) _ (lv_sub hl [0, 1, 2] rfl)
                      · have hc35139 : v35136.toInt = 9 := (fi_eq rfl (show (9 : Int32).toInt = 9 by decide)).mp c9
                        obtain ⟨v35153, h_v35153, e_v35153⟩ := tk_inc v34898 (-1) (by decide) (by omega) (by omega)
                        refine lv_iinc (v := v35153) (lv' := [(2, .int v35153), (1, .int v10104), (0, .ref am)]) hx hb dX13_findChampions_168 hl (k := 0) rfl e_v35153 (by decide) rfl (fun ls hl => ?_)
                        refine lv_goto (tgt := 143) hx hb dX13_findChampions_171 (by decide) ?_
                        exact ih_l35114 v35153 _ _ _ _ _ _ (by omega) (by omega) hM hS hIF hIG hIR hFF hGG hRR hrel hg_0 (od_r0 hod9 hU1 (by omega) (by omega)) (fun j hj => od_nn hnn9 hU1 (by omega) (by omega) j (by omega)) (by rw [show (v35153.toInt + 1).toNat = v34898.toInt.toNat by omega]; exact od_dn hm9 (by omega) hU1 (by rw [hfk]; omega) (by decide) (by omega)) _ (lv_sub hl [0, 1, 2] rfl)
                have hk_0 : (0 : Int32).toInt = 0 := by decide
                have hk_0 : (0 : Int32).toInt = 0 := by decide
                have hk_0 : (0 : Int32).toInt = 0 := by decide
                exact hl35114 194871711 0 _ _ _ _ _ _ (by omega) (by omega) hM hS hIF hIG hIR hFF hGG hRR hrel hg_0 (fun j hj => by rw [show j = 0 by omega, hf34897]; decide) (fun j hj => absurd hj (by omega)) (by rw [show ((0 : Int32).toInt + 1).toNat = 0 + 1 by decide, oM.s, hf34897]; show (0 : Int) + (9 - (-1 : Int32).toInt) * ((11 ^ (7 - 0) : Nat) : Int) < ((194871711 : Nat) : Int); decide) _ (lv_sub hl [0, 1, 2] rfl)
              · have hc34895 : v10104.toInt = 0 := (fi_eq rfl (show (0 : Int32).toInt = 0 by decide)).mp c9
                refine lv_aload_n hx hb dX13_findChampions_127 rfl (lv_at hl 2 rfl) ?_
                refine lv_iconst (v := 0) hx hb dX13_findChampions_128 (by decide) ?_
                have hk_0 : (0 : Int32).toInt = 0 := by decide
                refine mz_Vv (As := [.int 0]) (rest := []) ⟨hx, hb, hml, hown, hts⟩ hK hM hS (k_X13_weighRow l D cy ld ad am hD _ _ _ _ 0 hIF hIG hIR (by omega) (by omega) (fun j hj => absurd hj (by omega))) ⟨callB_of 1 hts (wl_in mw_1442) rfl rfl rfl (htl _ mw_5) (htl _ mw_1439) hd_yX13_weighRow ⟨(Nat.le_of_ble_eq_true rfl), (Nat.le_of_ble_eq_true rfl)⟩, htl _ mw_1440, htl _ mw_1441⟩ rfl hl.1 rfl (Nat.le_of_ble_eq_true rfl) dX13_findChampions_129 ⟨(Nat.le_of_ble_eq_true rfl), (Nat.le_of_ble_eq_true rfl)⟩ (fun H locs F G R S hpo hM hS => ?_)
                obtain ⟨hIF, hIG, hIR, hfr9, hrr9, hgr9⟩ := hpo
                have hFF := mz_fr (K := [34, 38, 41, 53, 54]) (Fa := Fa) hfr9 hFF (by decide)
                have hRR := mz_fr (K := [3, 6, 49, 50, 51, 52]) (Fa := Ra) hrr9 hRR (by decide)
                have hGG := mz_fr (K := [39, 40, 47]) (Fa := Ga) hgr9 hGG (by decide)
                have hrel : rK1 (Ra 3) (R 3) := hrel.trans (rK1.refl (hrr9 3 (by decide)))
                have hg_0 : R 3 0 = _ := (congrFun (hrr9 3 (by decide)) 0).trans hg_0
                refine lv_iconst (v := 0) hx hb dX13_findChampions_132 (by decide) ?_
                have hk_0 : (0 : Int32).toInt = 0 := by decide
                exact mz_iret (v := 0) hx hb hr rfl hlocks ⟨hIF, hIG, hIR, hFF, hRR, hGG, hrel, (by omega), (by omega), (by omega), (by omega)⟩ hM hS dX13_findChampions_133
            · have hc34563 : ¬ (v10104.toInt ≤ v30933.toInt) := fun h9 => c9 ((fi_le rfl rfl).mpr h9)
              refine lv_iconst (v := 0) hx hb dX13_findChampions_46 (by decide) ?_
              refine lv_istore_n (lv' := [(3, .int 0), (2, .int v30933), (1, .int v10104), (0, .ref am)]) hx hb dX13_findChampions_47 rfl hl (by decide) rfl (fun ls hl => ?_)
              have hl35431 : ∀ (N_l35431 : Nat) (v35155 : Int32) (H : Heap) (locs : List Loc) (F : Nat → Int32) (G : Nat → Int64) (R : Nat → Nat → Int32) (S : Nat → Nat → Int64), (0 ≤ v35155.toInt) → (0 ≤ g0.toInt + (-1) * v35155.toInt) → (mz_S D cy ad am F G R S H) → (va_S (mz_W ad am) s.heap H locs) → (mz_IF true F) → (mz_IG G) → (mz_IR [] true R) → (∀ k : Nat, k ∉ ([34, 38, 41, 53, 54] : List Nat) → F k = Fa k) → (∀ k : Nat, k ∉ ([39, 40, 47] : List Nat) → G k = Ga k) → (∀ k : Nat, k ∉ ([3, 6, 49, 50, 51, 52] : List Nat) → R k = Ra k) → (rK1 (Ra 3) (R 3)) → (R 3 0 = g0) → ((-1) * v35155.toInt + 8 < (N_l35431 : Int)) → ∀ ls : Array Slot, lv_has ls 4 [(3, .int v35155), (2, .int v30933), (1, .int v10104), (0, .ref am)] → W p l e ({ frames := 13, cells := 0, slots := 0, locals := 840 }) s m args below meth c H locs 0 0 (MQ below (mz_i D cy ad am (fun r F G R S => mz_IF true F ∧ mz_IG G ∧ mz_IR [] true R ∧ (∀ k : Nat, k ∉ ([34, 38, 41, 53, 54] : List Nat) → F k = Fa k) ∧ (∀ k : Nat, k ∉ ([3, 6, 49, 50, 51, 52] : List Nat) → R k = Ra k) ∧ (∀ k : Nat, k ∉ ([39, 40, 47] : List Nat) → G k = Ga k) ∧ rK1 (Ra 3) (R 3) ∧ 0 ≤ r.toInt ∧ r.toInt ≤ 8 ∧ 0 ≤ r.toInt ∧ r.toInt ≤ 8)) args s 0 0 (mz_W ad am)) (F0 m 48 ls []) := by
                intro N_l35431
                induction N_l35431 with
                | zero => intro v35155 H locs F G R S hq0_l35431 hq1_l35431 hM hS hIF hIG hIR hFF hGG hRR hrel hg_0 hm_l35431 ls hl; exfalso; omega
                | succ N_l35431 ih_l35431 =>
                  intro v35155 H locs F G R S hq0_l35431 hq1_l35431 hM hS hIF hIG hIR hFF hGG hRR hrel hg_0 hm_l35431 ls hl
                  refine lv_iload_n hx hb dX13_findChampions_48 rfl (lv_at hl 0 rfl) ?_
                  refine lv_aload_n hx hb dX13_findChampions_49 rfl (lv_at hl 3 rfl) ?_
                  refine mz_getR hx hb htl hown hK hM 3 (Nat.le_of_ble_eq_true rfl) (Nat.le_of_ble_eq_true rfl) (htl _ mw_188) (fun _ h9 => h9) dX13_findChampions_50 ?_
                  refine lv_iconst (v := 0) hx hb dX13_findChampions_53 (by decide) ?_
                  refine mz_iald hx hb hK hM 3 (Nat.le_of_ble_eq_true rfl) rfl (nn := 5560) rfl (I := 0) (by decide) (by decide) (by decide) dX13_findChampions_54 (fun v9 e9 => ?_)
                  refine fx_ti (v := g0) (e9.symm.trans (show R 3 (0 : Int32).toNatClampNeg = _ from hg_0)) ?_
                  refine lv_icmp_ge (tgt := 107) hx hb dX13_findChampions_55 (by decide) (fun c9 => ?_) (fun c9 => ?_)
                  · have hc35432 : g0.toInt ≤ v35155.toInt := (fi_le rfl rfl).mp c9
                    obtain ⟨v35457, h_v35457, e_v35457⟩ := tk_inc v30933 1 (by decide) (by omega) (by omega)
                    refine lv_iinc (v := v35457) (lv' := [(2, .int v35457), (3, .int v35155), (1, .int v10104), (0, .ref am)]) hx hb dX13_findChampions_107 hl (k := 1) rfl e_v35457 (by decide) rfl (fun ls hl => ?_)
                    refine lv_goto (tgt := 41) hx hb dX13_findChampions_110 (by decide) ?_
                    exact ih_l34562 v35457 _ _ _ _ _ _ (by omega) (by omega) hM hS hIF hIG hIR hFF hGG hRR hrel hg_0 (by omega) _ (lv_sub hl [0, 2, 3] rfl)
                  · have hc35432 : ¬ (g0.toInt ≤ v35155.toInt) := fun h9 => c9 ((fi_le rfl rfl).mpr h9)
                    refine lv_aload_n hx hb dX13_findChampions_58 rfl (lv_at hl 3 rfl) ?_
                    refine mz_getR hx hb htl hown hK hM 49 (Nat.le_of_ble_eq_true rfl) (Nat.le_of_ble_eq_true rfl) (htl _ mw_232) (fun _ h9 => h9) dX13_findChampions_59 ?_
                    refine lv_bipush (v := 8) hx hb dX13_findChampions_62 (by decide) ?_
                    refine lv_aload_n hx hb dX13_findChampions_64 rfl (lv_at hl 3 rfl) ?_
                    refine mz_getR hx hb htl hown hK hM 50 (Nat.le_of_ble_eq_true rfl) (Nat.le_of_ble_eq_true rfl) (htl _ mw_233) (fun _ h9 => h9) dX13_findChampions_65 ?_
                    refine lv_iload_n hx hb dX13_findChampions_68 rfl (lv_at hl 1 rfl) ?_
                    refine mz_iald hx hb hK hM 50 (Nat.le_of_ble_eq_true rfl) rfl (nn := 8) rfl rfl (by omega) (by omega) dX13_findChampions_69 (fun v35458 e_v35458 => ?_)
                    have hq_v35458 := tk_rng v35458
                    have he_v35458 : 0 ≤ v35458.toInt ∧ v35458.toInt ≤ 7 := mz_elg (n := 8) (hIR.at 50) e_v35458 rfl (by omega) (by omega)
                    refine lv_imul hx hb dX13_findChampions_70 ?_
                    refine tk_mul (show (8 : Int32).toInt = 8 by decide) rfl (by omega) (by omega) (fun v35459 h_v35459 => ?_)
                    refine lv_iload_n hx hb dX13_findChampions_71 rfl (lv_at hl 0 rfl) ?_
                    refine lv_iadd hx hb dX13_findChampions_72 ?_
                    refine tk_add rfl rfl (by omega) (by omega) (fun v35460 h_v35460 => ?_)
                    refine lv_aload_n hx hb dX13_findChampions_73 rfl (lv_at hl 3 rfl) ?_
                    refine lv_iload_n hx hb dX13_findChampions_74 rfl (lv_at hl 0 rfl) ?_
                    refine lv_iconst (v := 2) hx hb dX13_findChampions_75 (by decide) ?_
                    have hk_2 : (2 : Int32).toInt = 2 := by decide
                    refine mz_Vj (As := [.int v35155, .int 2]) (rest := [.int v35460, .ref (ad 49)]) ⟨hx, hb, hml, hown, hts⟩ hK hM hS (k_X13_ofSinger_2 l D cy ld ad am hD _ _ _ _ v35155 (hIF.weak) hIG hIR (by omega) (by omega)) ⟨callB_of 2 hts (wl_in mw_324) rfl rfl rfl (htl _ mw_5) (htl _ mw_321) hd_yX13_ofSinger ⟨(Nat.le_of_ble_eq_true rfl), (Nat.le_of_ble_eq_true rfl)⟩, htl _ mw_322, htl _ mw_323⟩ rfl hl.1 rfl (Nat.le_of_ble_eq_true rfl) dX13_findChampions_76 ⟨(Nat.le_of_ble_eq_true rfl), (Nat.le_of_ble_eq_true rfl)⟩ (fun v35461 H locs hpo hM hS => ?_)
                    obtain ⟨hpo35462, hpo35463⟩ := hpo
                    have hq_v35461 := tk_rng v35461
                    refine lv_iconst (v := 1) hx hb dX13_findChampions_79 (by decide) ?_
                    have hj35474 : ∀ (v35472 : Int32) (H : Heap) (locs : List Loc) (F : Nat → Int32) (G : Nat → Int64) (R : Nat → Nat → Int32) (S : Nat → Nat → Int64), ((-1) ≤ v35472.toInt) → (v35472.toInt ≤ 1) → (mz_S D cy ad am F G R S H) → (va_S (mz_W ad am) s.heap H locs) → (mz_IF true F) → (mz_IG G) → (mz_IR [] true R) → (∀ k : Nat, k ∉ ([34, 38, 41, 53, 54] : List Nat) → F k = Fa k) → (∀ k : Nat, k ∉ ([39, 40, 47] : List Nat) → G k = Ga k) → (∀ k : Nat, k ∉ ([3, 6, 49, 50, 51, 52] : List Nat) → R k = Ra k) → (rK1 (Ra 3) (R 3)) → (R 3 0 = g0) → ∀ ls : Array Slot, lv_has ls 4 [(3, .int v35155), (2, .int v30933), (1, .int v10104), (0, .ref am)] → W p l e ({ frames := 13, cells := 0, slots := 0, locals := 840 }) s m args below meth c H locs 0 0 (MQ below (mz_i D cy ad am (fun r F G R S => mz_IF true F ∧ mz_IG G ∧ mz_IR [] true R ∧ (∀ k : Nat, k ∉ ([34, 38, 41, 53, 54] : List Nat) → F k = Fa k) ∧ (∀ k : Nat, k ∉ ([3, 6, 49, 50, 51, 52] : List Nat) → R k = Ra k) ∧ (∀ k : Nat, k ∉ ([39, 40, 47] : List Nat) → G k = Ga k) ∧ rK1 (Ra 3) (R 3) ∧ 0 ≤ r.toInt ∧ r.toInt ≤ 8 ∧ 0 ≤ r.toInt ∧ r.toInt ≤ 8)) args s 0 0 (mz_W ad am)) (F0 m 100 ls [.int v35472, .int v35460, .ref (ad 49)]) := by
                      intro v35472 H locs F G R S hq0_j35474 hq1_j35474 hM hS hIF hIG hIR hFF hGG hRR hrel hg_0 ls hl
                      refine mz_iast (x := v35472) hx hb hK hD hM hS 49 (Nat.le_of_ble_eq_true rfl) rfl (nn := 64) rfl rfl (by omega) (by omega) dX13_findChampions_100 (fun H locs R hM hS hw9 hj9 => ?_)
                      have hIR := hIR.put hw9 hj9 trivial
                      have hRR := mz_frp (K := [3, 6, 49, 50, 51, 52]) (Fa := Ra) hj9 hRR (by decide)
                      have hrel : rK1 (Ra 3) (R 3) := (hj9 3 (by decide)) ▸ hrel
                      have hg_0 : R 3 0 = _ := (congrFun (hj9 3 (by decide)) 0).trans hg_0
                      have em35475 : R 49 (v35460 : Int32).toNatClampNeg = v35472 := (congrFun hw9 _).trans pk_us
                      obtain ⟨v35477, h_v35477, e_v35477⟩ := tk_inc v35155 1 (by decide) (by omega) (by omega)
                      refine lv_iinc (v := v35477) (lv' := [(3, .int v35477), (2, .int v30933), (1, .int v10104), (0, .ref am)]) hx hb dX13_findChampions_101 hl (k := 0) rfl e_v35477 (by decide) rfl (fun ls hl => ?_)
                      refine lv_goto (tgt := 48) hx hb dX13_findChampions_104 (by decide) ?_
                      exact ih_l35431 v35477 _ _ _ _ _ _ (by omega) (by omega) hM hS hIF hIG hIR hFF hGG hRR hrel hg_0 (by omega) _ (lv_sub hl [0, 1, 2, 3] rfl)
                    refine lv_icmp_ne (tgt := 99) hx hb dX13_findChampions_80 (by decide) (fun c9 => ?_) (fun c9 => ?_)
                    · have hc35465 : ¬ (v35461.toInt = 1) := fun h9 => c9 ((fi_eq rfl (show (1 : Int32).toInt = 1 by decide)).mpr h9)
                      refine lv_iconst (v := 0) hx hb dX13_findChampions_99 (by decide) ?_
                      have hk_0 : (0 : Int32).toInt = 0 := by decide
                      exact hj35474 0 _ _ _ _ _ _ (by omega) (by omega) hM hS hIF hIG hIR hFF hGG hRR hrel hg_0 _ (lv_sub hl [0, 1, 2, 3] rfl)
                    · have hc35465 : v35461.toInt = 1 := (fi_eq rfl (show (1 : Int32).toInt = 1 by decide)).mp c9
                      refine lv_aload_n hx hb dX13_findChampions_83 rfl (lv_at hl 3 rfl) ?_
                      refine lv_aload_n hx hb dX13_findChampions_84 rfl (lv_at hl 3 rfl) ?_
                      refine mz_getR hx hb htl hown hK hM 50 (Nat.le_of_ble_eq_true rfl) (Nat.le_of_ble_eq_true rfl) (htl _ mw_233) (fun _ h9 => h9) dX13_findChampions_85 ?_
                      refine lv_iload_n hx hb dX13_findChampions_88 rfl (lv_at hl 1 rfl) ?_
                      refine mz_iald hx hb hK hM 50 (Nat.le_of_ble_eq_true rfl) rfl (nn := 8) rfl rfl (by omega) (by omega) dX13_findChampions_89 (fun v9 e9 => ?_)
                      refine fx_ti (v := v35458) (e9.symm.trans e_v35458) ?_
                      refine lv_iload_n hx hb dX13_findChampions_90 rfl (lv_at hl 0 rfl) ?_
                      refine lv_iconst (v := (-1)) hx hb dX13_findChampions_91 (by decide) ?_
                      refine lv_iconst (v := (-1)) hx hb dX13_findChampions_92 (by decide) ?_
                      have hk_m1 : ((-1) : Int32).toInt = (-1) := by decide
                      have hk_m1 : ((-1) : Int32).toInt = (-1) := by decide
                      refine mz_Vi (As := [.int v35458, .int v35155, .int (-1), .int (-1)]) (rest := [.int v35460, .ref (ad 49)]) ⟨hx, hb, hml, hown, hts⟩ hK hM hS (k_X13_resultOnPaper l D cy ld ad am hD _ _ _ _ v35458 v35155 (-1) (-1) hIF hIG hIR (by omega) (by omega) (by omega) (by omega) (by omega) (by omega) (by omega) (by omega)) ⟨callB_of 4 hts (wl_in mw_1369) rfl rfl rfl (htl _ mw_5) (htl _ mw_1366) hd_yX13_resultOnPaper ⟨(Nat.le_of_ble_eq_true rfl), (Nat.le_of_ble_eq_true rfl)⟩, htl _ mw_1367, htl _ mw_1368⟩ rfl hl.1 rfl (Nat.le_of_ble_eq_true rfl) dX13_findChampions_93 ⟨(Nat.le_of_ble_eq_true rfl), (Nat.le_of_ble_eq_true rfl)⟩ (fun v35478 H locs F G R S hpo hM hS => ?_)
                      obtain ⟨hIF, hIG, hIR, hfr9, hrr9, hgr9, hrel9, hpo35479, hpo35480⟩ := hpo
                      have hq_v35478 := tk_rng v35478
                      have hFF := mz_fr (K := [34, 38, 41, 53, 54]) (Fa := Fa) hfr9 hFF (by decide)
                      have hRR := mz_fr (K := [3, 6, 49, 50, 51, 52]) (Fa := Ra) hrr9 hRR (by decide)
                      have hGG := mz_fr (K := [39, 40, 47]) (Fa := Ga) hgr9 hGG (by decide)
                      have hrel := hrel.trans hrel9
                      have e_v35458 : R 50 (v30933 : Int32).toNatClampNeg = _ := (congrFun (hrr9 50 (by decide)) _).trans e_v35458
                      have hg_0 : R 3 0 = _ := (hrel9 0 (by omega)).trans hg_0
                      refine lv_goto (tgt := 100) hx hb dX13_findChampions_96 (by decide) ?_
                      exact hj35474 v35478 _ _ _ _ _ _ (by omega) (by omega) hM hS hIF hIG hIR hFF hGG hRR hrel hg_0 _ (lv_sub hl [0, 1, 2, 3] rfl)
              have hk_0 : (0 : Int32).toInt = 0 := by decide
              exact hl35431 9 0 _ _ _ _ _ _ (by omega) (by omega) hM hS hIF hIG hIR hFF hGG hRR hrel hg_0 (by omega) _ (lv_sub hl [0, 1, 2, 3] rfl)
        have hk_0 : (0 : Int32).toInt = 0 := by decide
        exact hl34562 9 0 _ _ _ _ _ _ (by omega) (by omega) hM hS hIF hIG hIR (fun _ _ => rfl) (fun _ _ => rfl) hRR hrel hg_0 (by omega) _ (lv_sub hl [0, 1, 2] rfl)
      · have hc30915 : ¬ (g0.toInt ≤ v10103.toInt) := fun h9 => c9 ((fi_le rfl rfl).mpr h9)
        refine lv_aload_n hx hb dX13_findChampions_14 rfl (lv_at hl 2 rfl) ?_
        refine lv_iload_n hx hb dX13_findChampions_15 rfl (lv_at hl 0 rfl) ?_
        refine lv_iconst (v := 2) hx hb dX13_findChampions_16 (by decide) ?_
        have hk_2 : (2 : Int32).toInt = 2 := by decide
        refine mz_Vj (As := [.int v10103, .int 2]) (rest := []) ⟨hx, hb, hml, hown, hts⟩ hK hM hS (k_X13_ofSinger_2 l D cy ld ad am hD _ _ _ _ v10103 (hIF.weak) hIG hIR (by omega) (by omega)) ⟨callB_of 2 hts (wl_in mw_324) rfl rfl rfl (htl _ mw_5) (htl _ mw_321) hd_yX13_ofSinger ⟨(Nat.le_of_ble_eq_true rfl), (Nat.le_of_ble_eq_true rfl)⟩, htl _ mw_322, htl _ mw_323⟩ rfl hl.1 rfl (Nat.le_of_ble_eq_true rfl) dX13_findChampions_17 ⟨(Nat.le_of_ble_eq_true rfl), (Nat.le_of_ble_eq_true rfl)⟩ (fun v35482 H locs hpo hM hS => ?_)
        obtain ⟨hpo35483, hpo35484⟩ := hpo
        have hq_v35482 := tk_rng v35482
        have hj35494 : ∀ (v35492 : Int32) (H : Heap) (locs : List Loc) (R : Nat → Nat → Int32), (0 ≤ v10104.toInt + (-1) * v35492.toInt + 1) → (0 ≤ (-1) * v10104.toInt + v35492.toInt) → (mz_S D cy ad am Fa Ga R Sa H) → (va_S (mz_W ad am) s.heap H locs) → (mz_IR [] true R) → (∀ k : Nat, k ∉ ([3, 6, 49, 50, 51, 52] : List Nat) → R k = Ra k) → (rK1 (Ra 3) (R 3)) → (R 3 0 = g0) → ∀ ls : Array Slot, lv_has ls 4 [(2, .int v10103), (1, .int v35492), (0, .ref am)] → W p l e ({ frames := 13, cells := 0, slots := 0, locals := 840 }) s m args below meth c H locs 0 0 (MQ below (mz_i D cy ad am (fun r F G R S => mz_IF true F ∧ mz_IG G ∧ mz_IR [] true R ∧ (∀ k : Nat, k ∉ ([34, 38, 41, 53, 54] : List Nat) → F k = Fa k) ∧ (∀ k : Nat, k ∉ ([3, 6, 49, 50, 51, 52] : List Nat) → R k = Ra k) ∧ (∀ k : Nat, k ∉ ([39, 40, 47] : List Nat) → G k = Ga k) ∧ rK1 (Ra 3) (R 3) ∧ 0 ≤ r.toInt ∧ r.toInt ≤ 8 ∧ 0 ≤ r.toInt ∧ r.toInt ≤ 8)) args s 0 0 (mz_W ad am)) (F0 m 33 ls []) := by
          intro v35492 H locs R hq0_j35494 hq1_j35494 hM hS hIR hRR hrel hg_0 ls hl
          obtain ⟨v35495, h_v35495, e_v35495⟩ := tk_inc v10103 1 (by decide) (by omega) (by omega)
          refine lv_iinc (v := v35495) (lv' := [(2, .int v35495), (1, .int v35492), (0, .ref am)]) hx hb dX13_findChampions_33 hl (k := 0) rfl e_v35495 (by decide) rfl (fun ls hl => ?_)
          refine lv_goto (tgt := 4) hx hb dX13_findChampions_36 (by decide) ?_
          exact ih_l30914 v35495 v35492 _ _ _ (by omega) (by omega) (by omega) hM hS hIR hRR hrel hg_0 (by omega) _ (lv_sub hl [0, 1, 2] rfl)
        refine lv_if_ne (tgt := 33) hx hb dX13_findChampions_20 (by decide) (fun c9 => ?_) (fun c9 => ?_)
        · have hc35486 : ¬ (v35482.toInt = 0) := fun h9 => c9 ((fi_eq rfl (show (0 : Int32).toInt = 0 by decide)).mpr h9)
          exact hj35494 v10104 _ _ _ (by omega) (by omega) hM hS hIR hRR hrel hg_0 _ (lv_sub hl [0, 1, 2] rfl)
        · have hc35486 : v35482.toInt = 0 := (fi_eq rfl (show (0 : Int32).toInt = 0 by decide)).mp c9
          refine lv_aload_n hx hb dX13_findChampions_23 rfl (lv_at hl 2 rfl) ?_
          refine mz_getR hx hb htl hown hK hM 50 (Nat.le_of_ble_eq_true rfl) (Nat.le_of_ble_eq_true rfl) (htl _ mw_233) (fun _ h9 => h9) dX13_findChampions_24 ?_
          refine lv_iload_n hx hb dX13_findChampions_27 rfl (lv_at hl 1 rfl) ?_
          refine lv_iload_n hx hb dX13_findChampions_28 rfl (lv_at hl 0 rfl) ?_
          refine mz_iast (x := v10103) hx hb hK hD hM hS 50 (Nat.le_of_ble_eq_true rfl) rfl (nn := 8) rfl rfl (by omega) (by omega) dX13_findChampions_29 (fun H locs R hM hS hw9 hj9 => ?_)
          have hIR := hIR.put hw9 hj9 (mz_elp (hIR.at 50) (show 0 ≤ (v10103 : Int32).toInt by omega) (show (v10103 : Int32).toInt ≤ 7 by omega))
          have hRR := mz_frp (K := [3, 6, 49, 50, 51, 52]) (Fa := Ra) hj9 hRR (by decide)
          have hrel : rK1 (Ra 3) (R 3) := (hj9 3 (by decide)) ▸ hrel
          have hg_0 : R 3 0 = _ := (congrFun (hj9 3 (by decide)) 0).trans hg_0
          have em35496 : R 50 (v10104 : Int32).toNatClampNeg = v10103 := (congrFun hw9 _).trans pk_us
          obtain ⟨v35498, h_v35498, e_v35498⟩ := tk_inc v10104 1 (by decide) (by omega) (by omega)
          refine lv_iinc (v := v35498) (lv' := [(1, .int v35498), (2, .int v10103), (0, .ref am)]) hx hb dX13_findChampions_30 hl (k := 1) rfl e_v35498 (by decide) rfl (fun ls hl => ?_)
          exact hj35494 v35498 _ _ _ (by omega) (by omega) hM hS hIR hRR hrel hg_0 _ (lv_sub hl [1, 0, 2] rfl)
  have hk_0 : (0 : Int32).toInt = 0 := by decide
  have hk_0 : (0 : Int32).toInt = 0 := by decide
  exact hl30914 9 0 0 _ _ _ (by omega) (by omega) (by omega) hM hS hIR (fun _ _ => rfl) (rK1.refl rfl) hg_0 (by omega) _ (lv_sub hl [0, 1, 2] rfl)
