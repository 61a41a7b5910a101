theorem tk_or {x y : Int32} (hx0 : 0 ≤ x.toInt) (hx1 : x.toInt ≤ 255) (hy0 : 0 ≤ y.toInt) (hy1 : y.toInt ≤ 255) : x.toInt ≤ (x ||| y).toInt ∧ y.toInt ≤ (x ||| y).toInt ∧ (x ||| y).toInt ≤ 255 := by
  obtain ⟨a, ha, rfl⟩ := nI_of (x := x) (fun q => by have := (fi_lt rfl (show (0 : Int32).toInt = 0 by decide)).mp q; omega)
  obtain ⟨b, hb, rfl⟩ := nI_of (x := y) (fun q => by have := (fi_lt rfl (show (0 : Int32).toInt = 0 by decide)).mp q; omega)
  rw [nI_toInt ha] at hx1 ⊢
  rw [nI_toInt hb] at hy1 ⊢
  have e : nI a ||| nI b = nI (a ||| b) := by
    apply Int32.toBitVec_inj.mp
    rw [Int32.toBitVec_or]
    show BitVec.ofNat 32 a ||| BitVec.ofNat 32 b = BitVec.ofNat 32 (a ||| b)
    apply BitVec.eq_of_toNat_eq
    have h1 : a ||| b < 2 ^ 32 := Nat.or_lt_two_pow (by omega) (by omega)
    rw [BitVec.toNat_or, BitVec.toNat_ofNat, BitVec.toNat_ofNat, BitVec.toNat_ofNat, Nat.mod_eq_of_lt (by omega), Nat.mod_eq_of_lt (by omega), Nat.mod_eq_of_lt h1]
  have h8 : a ||| b < 2 ^ 8 := Nat.or_lt_two_pow (by omega) (by omega)
  have h9 : a ≤ a ||| b := Nat.left_le_or
  have h7 : b ≤ a ||| b := Nat.right_le_or
  rw [e, nI_toInt (by omega)]
  omega
theorem tk_sh7 {x y : Int32} (hx0 : 0 ≤ x.toInt) (hx1 : x.toInt ≤ 1) (hy0 : 0 ≤ y.toInt) (hy1 : y.toInt ≤ 7) : 0 ≤ (x <<< (y &&& 31)).toInt ∧ (x <<< (y &&& 31)).toInt ≤ 128 := by
  have h : ∀ (a : Fin 2) (b : Fin 8), 0 ≤ (nI a.val <<< (nI b.val &&& 31)).toInt ∧ (nI a.val <<< (nI b.val &&& 31)).toInt ≤ 128 := by decide +kernel
  obtain ⟨a, ha, rfl⟩ := nI_of (x := x) (fun q => by have := (fi_lt rfl (show (0 : Int32).toInt = 0 by decide)).mp q; omega)
  obtain ⟨b, hb, rfl⟩ := nI_of (x := y) (fun q => by have := (fi_lt rfl (show (0 : Int32).toInt = 0 by decide)).mp q; omega)
  rw [nI_toInt ha] at hx1
  rw [nI_toInt hb] at hy1
  exact h ⟨a, by omega⟩ ⟨b, by omega⟩
theorem hd_yX13_is : yX13_is.cls ≠ "java/lang/invoke/MethodHandle" ∧ yX13_is.cls ≠ "java/lang/invoke/VarHandle" ∧ (parseMethodDescriptor yX13_is.desc).map (fun d => d.parameters.length) = some 2 := by decide +kernel
theorem dX13_caught_0 : decode cX13_caught 0 = .ok (.iconst 1, 1) := by decide +kernel
theorem dX13_caught_1 : decode cX13_caught 1 = .ok (.iload_n 1, 1) := by decide +kernel
theorem dX13_caught_2 : decode cX13_caught 2 = .ok (.ishl, 1) := by decide +kernel
theorem dX13_caught_3 : decode cX13_caught 3 = .ok (.istore_n 3, 1) := by decide +kernel
theorem dX13_caught_4 : decode cX13_caught 4 = .ok (.iconst 0, 1) := by decide +kernel
theorem dX13_caught_5 : decode cX13_caught 5 = .ok (.istore 4, 2) := by decide +kernel
theorem dX13_caught_7 : decode cX13_caught 7 = .ok (.iload 4, 2) := by decide +kernel
theorem dX13_caught_9 : decode cX13_caught 9 = .ok (.aload_n 0, 1) := by decide +kernel
theorem dX13_caught_10 : decode cX13_caught 10 = .ok (.getfield 13, 3) := by decide +kernel
theorem dX13_caught_13 : decode cX13_caught 13 = .ok (.iconst 0, 1) := by decide +kernel
theorem dX13_caught_14 : decode cX13_caught 14 = .ok (.iaload, 1) := by decide +kernel
theorem dX13_caught_15 : decode cX13_caught 15 = .ok (.if_icmp .ge 22, 3) := by decide +kernel
theorem dX13_caught_37 : decode cX13_caught 37 = .ok (.aload_n 0, 1) := by decide +kernel
theorem dX13_caught_38 : decode cX13_caught 38 = .ok (.iconst 0, 1) := by decide +kernel
theorem dX13_caught_39 : decode cX13_caught 39 = .ok (.putfield 581, 3) := by decide +kernel
theorem dX13_caught_42 : decode cX13_caught 42 = .ok (.iconst 1, 1) := by decide +kernel
theorem dX13_caught_43 : decode cX13_caught 43 = .ok (.istore 4, 2) := by decide +kernel
theorem dX13_caught_45 : decode cX13_caught 45 = .ok (.iload 4, 2) := by decide +kernel
theorem dX13_caught_47 : decode cX13_caught 47 = .ok (.ifCond .eq 132, 3) := by decide +kernel
theorem dX13_caught_179 : decode cX13_caught 179 = .ok (.iload_n 3, 1) := by decide +kernel
theorem dX13_caught_180 : decode cX13_caught 180 = .ok (.ireturn, 1) := by decide +kernel
theorem dX13_caught_50 : decode cX13_caught 50 = .ok (.iload_n 3, 1) := by decide +kernel
theorem dX13_caught_51 : decode cX13_caught 51 = .ok (.istore 5, 2) := by decide +kernel
theorem dX13_caught_53 : decode cX13_caught 53 = .ok (.iconst 0, 1) := by decide +kernel
theorem dX13_caught_54 : decode cX13_caught 54 = .ok (.istore 6, 2) := by decide +kernel
theorem dX13_caught_56 : decode cX13_caught 56 = .ok (.iload 6, 2) := by decide +kernel
theorem dX13_caught_58 : decode cX13_caught 58 = .ok (.aload_n 0, 1) := by decide +kernel
theorem dX13_caught_59 : decode cX13_caught 59 = .ok (.getfield 13, 3) := by decide +kernel
theorem dX13_caught_62 : decode cX13_caught 62 = .ok (.iconst 0, 1) := by decide +kernel
theorem dX13_caught_63 : decode cX13_caught 63 = .ok (.iaload, 1) := by decide +kernel
theorem dX13_caught_64 : decode cX13_caught 64 = .ok (.if_icmp .ge 77, 3) := by decide +kernel
theorem dX13_caught_141 : decode cX13_caught 141 = .ok (.iload 5, 2) := by decide +kernel
theorem dX13_caught_143 : decode cX13_caught 143 = .ok (.iload_n 3, 1) := by decide +kernel
theorem dX13_caught_144 : decode cX13_caught 144 = .ok (.if_icmp .eq 7, 3) := by decide +kernel
theorem dX13_caught_151 : decode cX13_caught 151 = .ok (.iconst 0, 1) := by decide +kernel
theorem dX13_caught_152 : decode cX13_caught 152 = .ok (.istore 4, 2) := by decide +kernel
theorem dX13_caught_154 : decode cX13_caught 154 = .ok (.aload_n 0, 1) := by decide +kernel
theorem dX13_caught_155 : decode cX13_caught 155 = .ok (.dup, 1) := by decide +kernel
theorem dX13_caught_156 : decode cX13_caught 156 = .ok (.getfield 581, 3) := by decide +kernel
theorem dX13_caught_159 : decode cX13_caught 159 = .ok (.iload 4, 2) := by decide +kernel
theorem dX13_caught_161 : decode cX13_caught 161 = .ok (.ifCond .eq 7, 3) := by decide +kernel
theorem dX13_caught_168 : decode cX13_caught 168 = .ok (.iconst 0, 1) := by decide +kernel
theorem dX13_caught_169 : decode cX13_caught 169 = .ok (.iadd, 1) := by decide +kernel
theorem dX13_caught_170 : decode cX13_caught 170 = .ok (.putfield 581, 3) := by decide +kernel
theorem dX13_caught_173 : decode cX13_caught 173 = .ok (.iload 5, 2) := by decide +kernel
theorem dX13_caught_175 : decode cX13_caught 175 = .ok (.istore_n 3, 1) := by decide +kernel
theorem dX13_caught_176 : decode cX13_caught 176 = .ok (.goto (-131), 3) := by decide +kernel
theorem dX13_caught_147 : decode cX13_caught 147 = .ok (.iconst 1, 1) := by decide +kernel
theorem dX13_caught_148 : decode cX13_caught 148 = .ok (.goto 4, 3) := by decide +kernel
theorem dX13_caught_164 : decode cX13_caught 164 = .ok (.iconst 1, 1) := by decide +kernel
theorem dX13_caught_165 : decode cX13_caught 165 = .ok (.goto 4, 3) := by decide +kernel
theorem dX13_caught_67 : decode cX13_caught 67 = .ok (.aload_n 0, 1) := by decide +kernel
theorem dX13_caught_68 : decode cX13_caught 68 = .ok (.getfield 13, 3) := by decide +kernel
theorem dX13_caught_71 : decode cX13_caught 71 = .ok (.bipush 108, 2) := by decide +kernel
theorem dX13_caught_73 : decode cX13_caught 73 = .ok (.iload 6, 2) := by decide +kernel
theorem dX13_caught_75 : decode cX13_caught 75 = .ok (.iadd, 1) := by decide +kernel
theorem dX13_caught_76 : decode cX13_caught 76 = .ok (.iaload, 1) := by decide +kernel
theorem dX13_caught_77 : decode cX13_caught 77 = .ok (.iload_n 3, 1) := by decide +kernel
theorem dX13_caught_78 : decode cX13_caught 78 = .ok (.iand, 1) := by decide +kernel
theorem dX13_caught_79 : decode cX13_caught 79 = .ok (.iload_n 2, 1) := by decide +kernel
theorem dX13_caught_80 : decode cX13_caught 80 = .ok (.iconst (-1), 1) := by decide +kernel
theorem dX13_caught_81 : decode cX13_caught 81 = .ok (.ixor, 1) := by decide +kernel
theorem dX13_caught_82 : decode cX13_caught 82 = .ok (.iand, 1) := by decide +kernel
theorem dX13_caught_91 : decode cX13_caught 91 = .ok (.istore 7, 2) := by decide +kernel
theorem dX13_caught_93 : decode cX13_caught 93 = .ok (.iload 5, 2) := by decide +kernel
theorem dX13_caught_95 : decode cX13_caught 95 = .ok (.iload 7, 2) := by decide +kernel
theorem dX13_caught_132 : decode cX13_caught 132 = .ok (.ior, 1) := by decide +kernel
theorem dX13_caught_133 : decode cX13_caught 133 = .ok (.istore 5, 2) := by decide +kernel
theorem dX13_caught_135 : decode cX13_caught 135 = .ok (.iinc 6 1, 3) := by decide +kernel
theorem dX13_caught_138 : decode cX13_caught 138 = .ok (.goto (-82), 3) := by decide +kernel
theorem dX13_caught_97 : decode cX13_caught 97 = .ok (.ifCond .eq 34, 3) := by decide +kernel
theorem dX13_caught_131 : decode cX13_caught 131 = .ok (.iconst 0, 1) := by decide +kernel
theorem dX13_caught_100 : decode cX13_caught 100 = .ok (.iload_n 2, 1) := by decide +kernel
theorem dX13_caught_101 : decode cX13_caught 101 = .ok (.iload 6, 2) := by decide +kernel
theorem dX13_caught_103 : decode cX13_caught 103 = .ok (.invokestatic 584, 3) := by decide +kernel
theorem dX13_caught_106 : decode cX13_caught 106 = .ok (.ifCond .ne 25, 3) := by decide +kernel
theorem dX13_caught_109 : decode cX13_caught 109 = .ok (.aload_n 0, 1) := by decide +kernel
theorem dX13_caught_110 : decode cX13_caught 110 = .ok (.iload 6, 2) := by decide +kernel
theorem dX13_caught_112 : decode cX13_caught 112 = .ok (.iconst 0, 1) := by decide +kernel
theorem dX13_caught_113 : decode cX13_caught 113 = .ok (.invokevirtual 207, 3) := by decide +kernel
theorem dX13_caught_116 : decode cX13_caught 116 = .ok (.aload_n 0, 1) := by decide +kernel
theorem dX13_caught_117 : decode cX13_caught 117 = .ok (.iconst 2, 1) := by decide +kernel
theorem dX13_caught_118 : decode cX13_caught 118 = .ok (.invokevirtual 412, 3) := by decide +kernel
theorem dX13_caught_121 : decode cX13_caught 121 = .ok (.if_icmp .gt 10, 3) := by decide +kernel
theorem dX13_caught_124 : decode cX13_caught 124 = .ok (.iconst 1, 1) := by decide +kernel
theorem dX13_caught_125 : decode cX13_caught 125 = .ok (.iload 6, 2) := by decide +kernel
theorem dX13_caught_127 : decode cX13_caught 127 = .ok (.ishl, 1) := by decide +kernel
theorem dX13_caught_128 : decode cX13_caught 128 = .ok (.goto 4, 3) := by decide +kernel
theorem dX13_caught_83 : decode cX13_caught 83 = .ok (.ifCond .eq 7, 3) := by decide +kernel
theorem dX13_caught_90 : decode cX13_caught 90 = .ok (.iconst 0, 1) := by decide +kernel
theorem dX13_caught_86 : decode cX13_caught 86 = .ok (.iconst 1, 1) := by decide +kernel
theorem dX13_caught_87 : decode cX13_caught 87 = .ok (.goto 4, 3) := by decide +kernel
theorem dX13_caught_18 : decode cX13_caught 18 = .ok (.iload_n 3, 1) := by decide +kernel
theorem dX13_caught_19 : decode cX13_caught 19 = .ok (.aload_n 0, 1) := by decide +kernel
theorem dX13_caught_20 : decode cX13_caught 20 = .ok (.iload 4, 2) := by decide +kernel
theorem dX13_caught_22 : decode cX13_caught 22 = .ok (.iconst 3, 1) := by decide +kernel
theorem dX13_caught_23 : decode cX13_caught 23 = .ok (.invokevirtual 207, 3) := by decide +kernel
theorem dX13_caught_26 : decode cX13_caught 26 = .ok (.iload 4, 2) := by decide +kernel
theorem dX13_caught_28 : decode cX13_caught 28 = .ok (.ishl, 1) := by decide +kernel
theorem dX13_caught_29 : decode cX13_caught 29 = .ok (.ior, 1) := by decide +kernel
theorem dX13_caught_30 : decode cX13_caught 30 = .ok (.istore_n 3, 1) := by decide +kernel
theorem dX13_caught_31 : decode cX13_caught 31 = .ok (.iinc 4 1, 3) := by decide +kernel
theorem dX13_caught_34 : decode cX13_caught 34 = .ok (.goto (-27), 3) := by decide +kernel
set_option maxHeartbeats 4000000 in
set_option maxRecDepth 100000 in
theorem k_X13_caught (l : Launch) (D : va_G) (cy : Nat → ClassId) (ld ad : Nat → Nat) (am : Nat) (hD : mz_D ad am) (Fa : Nat → Int32) (Ga : Nat → Int64) (Ra : Nat → Nat → Int32) (Sa : Nat → Nat → Int64) (p1 : Int32) (p2 : Int32) (hIF : mz_IF true Fa) (hIG : mz_IG Ga) (hIR : mz_IR [] true Ra) (hp_0 : 0 ≤ p1.toInt) (hp_1 : p1.toInt ≤ 7) : Met l yX13_caught (wl yX13_caught cX13_caught 8 (some .int)) ({ frames := 4, cells := 0, slots := 0, locals := 210 }) (mz_p D cy ld ad am Fa Ga Ra Sa [.ref am, .int p1, .int p2]) (mz_i D cy ad am (fun r F G R S => mz_IF true F ∧ mz_IG G ∧ mz_IR [] true R ∧ (∀ k : Nat, k ∉ ([60] : List Nat) → F k = Fa k) ∧ (∀ k : Nat, k ∉ ([] : List Nat) → R k = Ra k) ∧ (∀ k : Nat, k ∉ ([] : List Nat) → G k = Ga k) ∧ 0 ≤ r.toInt ∧ r.toInt ≤ 255)) 0 0 (mz_W ad am) := by
  refine mz_met (y := yX13_caught) (cc := cX13_caught) (maxL := 8) (ret := (some .int)) (av := [.ref am, .int p1, .int p2]) _ (by decide) (Nat.le_of_ble_eq_true rfl) ?_
  intro p e s m args below meth c hx hb hr hml hts htl hown hlocks hK H locs hM hS ls hl
  have hown : s.vm.findClass RX13 = some m.cls := hown
  have hl : lv_has ls 8 [(0, .ref am), (1, .int p1), (2, .int p2)] := hl
  have hr_p1 := tk_rng p1
  have hr_p2 := tk_rng p2
  refine lv_iconst (v := 1) hx hb dX13_caught_0 (by decide) ?_
  refine lv_iload_n hx hb dX13_caught_1 rfl (lv_at hl 1 rfl) ?_
  have hk_1 : (1 : Int32).toInt = 1 := by decide
  refine lv_ishl hx hb dX13_caught_2 ?_
  refine tk_say (P := fun z => 0 ≤ z.toInt ∧ z.toInt ≤ 128) (tk_sh7 (x := 1) (y := p1) (by omega) (by omega) (by omega) (by omega)) (fun v1 h_v1 => ?_)
  refine lv_istore_n (lv' := [(3, .int v1), (0, .ref am), (1, .int p1), (2, .int p2)]) hx hb dX13_caught_3 rfl hl (by decide) rfl (fun ls hl => ?_)
  refine lv_iconst (v := 0) hx hb dX13_caught_4 (by decide) ?_
  refine lv_istore (lv' := [(4, .int 0), (3, .int v1), (0, .ref am), (1, .int p1), (2, .int p2)]) hx hb dX13_caught_5 hl (by decide) rfl (fun ls hl => ?_)
  have hl38894 : ∀ (N_l38894 : Nat) (v11991 : Int32) (v11992 : Int32) (H : Heap) (locs : List Loc), (v11991.toInt ≤ 8) → (0 ≤ v11991.toInt) → (0 ≤ (-1) * v1.toInt + v11992.toInt) → (v11992.toInt ≤ 255) → (mz_S D cy ad am Fa Ga Ra Sa H) → (va_S (mz_W ad am) s.heap H locs) → ((-1) * v11991.toInt + 8 < (N_l38894 : Int)) → ∀ ls : Array Slot, lv_has ls 8 [(4, .int v11991), (3, .int v11992), (0, .ref am), (2, .int p2)] → W p l e ({ frames := 4, cells := 0, slots := 0, locals := 210 }) s m args below meth c H locs 0 0 (MQ below (mz_i D cy ad am (fun r F G R S => mz_IF true F ∧ mz_IG G ∧ mz_IR [] true R ∧ (∀ k : Nat, k ∉ ([60] : List Nat) → F k = Fa k) ∧ (∀ k : Nat, k ∉ ([] : List Nat) → R k = Ra k) ∧ (∀ k : Nat, k ∉ ([] : List Nat) → G k = Ga k) ∧ 0 ≤ r.toInt ∧ r.toInt ≤ 255)) args s 0 0 (mz_W ad am)) (F0 m 7 ls []) := by
    intro N_l38894
    induction N_l38894 with
    | zero => intro v11991 v11992 H locs hq0_l38894 hq1_l38894 hq2_l38894 hq3_l38894 hM hS hm_l38894 ls hl; exfalso; omega
    | succ N_l38894 ih_l38894 =>
      intro v11991 v11992 H locs hq0_l38894 hq1_l38894 hq2_l38894 hq3_l38894 hM hS hm_l38894 ls hl
      refine lv_iload hx hb dX13_caught_7 (lv_at hl 0 rfl) ?_
      refine lv_aload_n hx hb dX13_caught_9 rfl (lv_at hl 2 rfl) ?_
      refine mz_getR hx hb htl hown hK hM 3 (Nat.le_of_ble_eq_true rfl) (Nat.le_of_ble_eq_true rfl) (htl _ mw_188) (fun _ h9 => h9) dX13_caught_10 ?_
      refine lv_iconst (v := 0) hx hb dX13_caught_13 (by decide) ?_
      refine mz_iald hx hb hK hM 3 (Nat.le_of_ble_eq_true rfl) rfl (nn := 5560) rfl (I := 0) (by decide) (by decide) (by decide) dX13_caught_14 (fun v38896 hf38895 => ?_)
      have hf38895 : Ra 3 0 = v38896 := hf38895
      have hq_v38896 := tk_rng v38896
      have hr_v38896 : 0 ≤ v38896.toInt ∧ v38896.toInt ≤ 8 := by have h9 := mz_r3c 0 (hIR.at 3) hf38895 (by decide); unfold mE at h9; omega
      refine lv_icmp_ge (tgt := 37) hx hb dX13_caught_15 (by decide) (fun c9 => ?_) (fun c9 => ?_)
      · have hc38897 : v38896.toInt ≤ v11991.toInt := (fi_le rfl rfl).mp c9
        refine lv_aload_n hx hb dX13_caught_37 rfl (lv_at hl 2 rfl) ?_
        refine lv_iconst (v := 0) hx hb dX13_caught_38 (by decide) ?_
        have hk_0 : (0 : Int32).toInt = 0 := by decide
        refine mz_putI (ty := .int) (x := 0) hx hb htl hown hK hD hM hS 60 (Nat.le_of_ble_eq_true rfl) rfl (htl _ mw_1595) (fun _ h9 => h9) rfl (tyX13_ok 60 (by decide)) rfl rfl dX13_caught_39 (fun H locs F hM hS hf9 hj9 => ?_)
        have hIF := hIF.put hf9 hj9 (tk_rng _).1 (tk_rng _).2 (by decide)
        have hFF := mz_frp (K := [60]) (Fa := Fa) hj9 (fun _ _ => rfl) (by decide)
        have hf38906 := hf9
        refine lv_iconst (v := 1) hx hb dX13_caught_42 (by decide) ?_
        refine lv_istore (lv' := [(4, .int 1), (3, .int v11992), (0, .ref am), (2, .int p2)]) hx hb dX13_caught_43 hl (by decide) rfl (fun ls hl => ?_)
        have hl46386 : ∀ (N_l46386 : Nat) (v38907 : Int32) (v38908 : Int32) (v38909 : Int32) (H : Heap) (locs : List Loc) (F : Nat → Int32), (0 ≤ v38909.toInt) → (0 ≤ v38908.toInt + (-1) * v38909.toInt) → (0 ≤ (-1) * v11992.toInt + v38908.toInt) → (v38908.toInt ≤ 255) → (0 ≤ v38907.toInt) → (v38907.toInt ≤ 1) → (mz_S D cy ad am F Ga Ra Sa H) → (va_S (mz_W ad am) s.heap H locs) → (mz_IF true F) → (∀ k : Nat, k ∉ ([60] : List Nat) → F k = Fa k) → (F 60 = v38909) → (2 * (255 - v38908.toInt) + v38907.toInt < (N_l46386 : Int)) → ∀ ls : Array Slot, lv_has ls 8 [(4, .int v38907), (3, .int v38908), (0, .ref am), (2, .int p2)] → W p l e ({ frames := 4, cells := 0, slots := 0, locals := 210 }) s m args below meth c H locs 0 0 (MQ below (mz_i D cy ad am (fun r F G R S => mz_IF true F ∧ mz_IG G ∧ mz_IR [] true R ∧ (∀ k : Nat, k ∉ ([60] : List Nat) → F k = Fa k) ∧ (∀ k : Nat, k ∉ ([] : List Nat) → R k = Ra k) ∧ (∀ k : Nat, k ∉ ([] : List Nat) → G k = Ga k) ∧ 0 ≤ r.toInt ∧ r.toInt ≤ 255)) args s 0 0 (mz_W ad am)) (F0 m 45 ls []) := by
          intro N_l46386
          induction N_l46386 with
          | zero => intro v38907 v38908 v38909 H locs F hq0_l46386 hq1_l46386 hq2_l46386 hq3_l46386 hq4_l46386 hq5_l46386 hM hS hIF hFF hf38906 hm_l46386 ls hl; exfalso; omega
          | succ N_l46386 ih_l46386 =>
            intro v38907 v38908 v38909 H locs F hq0_l46386 hq1_l46386 hq2_l46386 hq3_l46386 hq4_l46386 hq5_l46386 hM hS hIF hFF hf38906 hm_l46386 ls hl
            refine lv_iload hx hb dX13_caught_45 (lv_at hl 0 rfl) ?_
            refine lv_if_eq (tgt := 179) hx hb dX13_caught_47 (by decide) (fun c9 => ?_) (fun c9 => ?_)
            · have hc46387 : v38907.toInt = 0 := (fi_eq rfl (show (0 : Int32).toInt = 0 by decide)).mp c9
              refine lv_iload_n hx hb dX13_caught_179 rfl (lv_at hl 1 rfl) ?_
              exact mz_iret (v := v38908) hx hb hr rfl hlocks ⟨hIF, hIG, hIR, hFF, (fun _ _ => rfl), (fun _ _ => rfl), (by omega), (by omega)⟩ hM hS dX13_caught_180
            · have hc46387 : ¬ (v38907.toInt = 0) := fun h9 => c9 ((fi_eq rfl (show (0 : Int32).toInt = 0 by decide)).mpr h9)
              refine lv_iload_n hx hb dX13_caught_50 rfl (lv_at hl 1 rfl) ?_
              refine lv_istore (lv' := [(5, .int v38908), (4, .int v38907), (3, .int v38908), (0, .ref am), (2, .int p2)]) hx hb dX13_caught_51 hl (by decide) rfl (fun ls hl => ?_)
              refine lv_iconst (v := 0) hx hb dX13_caught_53 (by decide) ?_
              refine lv_istore (lv' := [(6, .int 0), (5, .int v38908), (4, .int v38907), (3, .int v38908), (0, .ref am), (2, .int p2)]) hx hb dX13_caught_54 hl (by decide) rfl (fun ls hl => ?_)
              have hl47765 : ∀ (N_l47765 : Nat) (v47130 : Int32) (v47131 : Int32) (H : Heap) (locs : List Loc), (0 ≤ (-1) * v38907.toInt + v47130.toInt + 1) → (0 ≤ v38896.toInt + (-1) * v47130.toInt) → (v47131.toInt ≤ 255) → (0 ≤ (-1) * v38908.toInt + v47131.toInt) → (mz_S D cy ad am F Ga Ra Sa H) → (va_S (mz_W ad am) s.heap H locs) → ((-1) * v47130.toInt + 8 < (N_l47765 : Int)) → ∀ ls : Array Slot, lv_has ls 8 [(6, .int v47130), (5, .int v47131), (3, .int v38908), (0, .ref am), (2, .int p2)] → W p l e ({ frames := 4, cells := 0, slots := 0, locals := 210 }) s m args below meth c H locs 0 0 (MQ below (mz_i D cy ad am (fun r F G R S => mz_IF true F ∧ mz_IG G ∧ mz_IR [] true R ∧ (∀ k : Nat, k ∉ ([60] : List Nat) → F k = Fa k) ∧ (∀ k : Nat, k ∉ ([] : List Nat) → R k = Ra k) ∧ (∀ k : Nat, k ∉ ([] : List Nat) → G k = Ga k) ∧ 0 ≤ r.toInt ∧ r.toInt ≤ 255)) args s 0 0 (mz_W ad am)) (F0 m 56 ls []) := by
                intro N_l47765
                induction N_l47765 with
                | zero => intro v47130 v47131 H locs hq0_l47765 hq1_l47765 hq2_l47765 hq3_l47765 hM hS hm_l47765 ls hl; exfalso; omega
                | succ N_l47765 ih_l47765 =>
                  intro v47130 v47131 H locs hq0_l47765 hq1_l47765 hq2_l47765 hq3_l47765 hM hS hm_l47765 ls hl
                  refine lv_iload hx hb dX13_caught_56 (lv_at hl 0 rfl) ?_
                  refine lv_aload_n hx hb dX13_caught_58 rfl (lv_at hl 3 rfl) ?_
                  refine mz_getR hx hb htl hown hK hM 3 (Nat.le_of_ble_eq_true rfl) (Nat.le_of_ble_eq_true rfl) (htl _ mw_188) (fun _ h9 => h9) dX13_caught_59 ?_
                  refine lv_iconst (v := 0) hx hb dX13_caught_62 (by decide) ?_
                  refine mz_iald hx hb hK hM 3 (Nat.le_of_ble_eq_true rfl) rfl (nn := 5560) rfl (I := 0) (by decide) (by decide) (by decide) dX13_caught_63 (fun v9 e9 => ?_)
                  refine fx_ti (v := v38896) (e9.symm.trans (show Ra 3 (0 : Int32).toNatClampNeg = _ from hf38895)) ?_
                  refine lv_icmp_ge (tgt := 141) hx hb dX13_caught_64 (by decide) (fun c9 => ?_) (fun c9 => ?_)
                  · have hc47766 : v38896.toInt ≤ v47130.toInt := (fi_le rfl rfl).mp c9
                    refine lv_iload hx hb dX13_caught_141 (lv_at hl 1 rfl) ?_
                    refine lv_iload_n hx hb dX13_caught_143 rfl (lv_at hl 2 rfl) ?_
                    refine lv_icmp_eq (tgt := 151) hx hb dX13_caught_144 (by decide) (fun c9 => ?_) (fun c9 => ?_)
                    · have hc47816 : v47131.toInt = v38908.toInt := (fi_eq rfl rfl).mp c9
                      refine lv_iconst (v := 0) hx hb dX13_caught_151 (by decide) ?_
                      refine lv_istore (lv' := [(4, .int 0), (6, .int v47130), (5, .int v47131), (3, .int v38908), (0, .ref am), (2, .int p2)]) hx hb dX13_caught_152 hl (by decide) rfl (fun ls hl => ?_)
                      refine lv_aload_n hx hb dX13_caught_154 rfl (lv_at hl 4 rfl) ?_
                      refine lv_dup hx hb dX13_caught_155 rfl ?_
                      refine mz_getI hx hb htl hown hK hM 60 (Nat.le_of_ble_eq_true rfl) rfl (htl _ mw_1595) (fun _ h9 => h9) dX13_caught_156 (fun v9 e9 => ?_)
                      refine fx_ti (v := v38909) (e9.symm.trans hf38906) ?_
                      refine lv_iload hx hb dX13_caught_159 (lv_at hl 0 rfl) ?_
                      refine lv_if_eq (tgt := 168) hx hb dX13_caught_161 (by decide) (fun _ => ?_) (fun c9 => absurd (by decide) c9)
                      refine lv_iconst (v := 0) hx hb dX13_caught_168 (by decide) ?_
                      refine lv_iadd hx hb dX13_caught_169 ?_
                      refine tk_add rfl (show (0 : Int32).toInt = 0 by decide) (by omega) (by omega) (fun v47817 h_v47817 => ?_)
                      refine mz_putI (ty := .int) (x := v47817) hx hb htl hown hK hD hM hS 60 (Nat.le_of_ble_eq_true rfl) rfl (htl _ mw_1595) (fun _ h9 => h9) rfl (tyX13_ok 60 (by decide)) rfl rfl dX13_caught_170 (fun H locs F hM hS hf9 hj9 => ?_)
                      have hIF := hIF.put hf9 hj9 (tk_rng _).1 (tk_rng _).2 (by decide)
                      have hFF := mz_frp (K := [60]) (Fa := Fa) hj9 hFF (by decide)
                      have hf47819 := hf9
                      refine lv_iload hx hb dX13_caught_173 (lv_at hl 2 rfl) ?_
                      refine lv_istore_n (lv' := [(3, .int v47131), (4, .int 0), (6, .int v47130), (5, .int v47131), (0, .ref am), (2, .int p2)]) hx hb dX13_caught_175 rfl hl (by decide) rfl (fun ls hl => ?_)
                      refine lv_goto (tgt := 45) hx hb dX13_caught_176 (by decide) ?_
                      have hk_0 : (0 : Int32).toInt = 0 := by decide
                      exact ih_l46386 0 v47131 v47817 _ _ _ (by omega) (by omega) (by omega) (by omega) (by omega) (by omega) hM hS hIF hFF hf47819 (by omega) _ (lv_sub hl [1, 0, 4, 5] rfl)
                    · have hc47816 : ¬ (v47131.toInt = v38908.toInt) := fun h9 => c9 ((fi_eq rfl rfl).mpr h9)
                      refine lv_iconst (v := 1) hx hb dX13_caught_147 (by decide) ?_
                      refine lv_goto (tgt := 152) hx hb dX13_caught_148 (by decide) ?_
                      refine lv_istore (lv' := [(4, .int 1), (6, .int v47130), (5, .int v47131), (3, .int v38908), (0, .ref am), (2, .int p2)]) hx hb dX13_caught_152 hl (by decide) rfl (fun ls hl => ?_)
                      refine lv_aload_n hx hb dX13_caught_154 rfl (lv_at hl 4 rfl) ?_
                      refine lv_dup hx hb dX13_caught_155 rfl ?_
                      refine mz_getI hx hb htl hown hK hM 60 (Nat.le_of_ble_eq_true rfl) rfl (htl _ mw_1595) (fun _ h9 => h9) dX13_caught_156 (fun v9 e9 => ?_)
                      refine fx_ti (v := v38909) (e9.symm.trans hf38906) ?_
                      refine lv_iload hx hb dX13_caught_159 (lv_at hl 0 rfl) ?_
                      refine lv_if_eq (tgt := 168) hx hb dX13_caught_161 (by decide) (fun c9 => absurd c9 (by decide)) (fun _ => ?_)
                      refine lv_iconst (v := 1) hx hb dX13_caught_164 (by decide) ?_
                      refine lv_goto (tgt := 169) hx hb dX13_caught_165 (by decide) ?_
                      refine lv_iadd hx hb dX13_caught_169 ?_
                      refine tk_add rfl (show (1 : Int32).toInt = 1 by decide) (by omega) (by omega) (fun v47820 h_v47820 => ?_)
                      refine mz_putI (ty := .int) (x := v47820) hx hb htl hown hK hD hM hS 60 (Nat.le_of_ble_eq_true rfl) rfl (htl _ mw_1595) (fun _ h9 => h9) rfl (tyX13_ok 60 (by decide)) rfl rfl dX13_caught_170 (fun H locs F hM hS hf9 hj9 => ?_)
                      have hIF := hIF.put hf9 hj9 (tk_rng _).1 (tk_rng _).2 (by decide)
                      have hFF := mz_frp (K := [60]) (Fa := Fa) hj9 hFF (by decide)
                      have hf47822 := hf9
                      refine lv_iload hx hb dX13_caught_173 (lv_at hl 2 rfl) ?_
                      refine lv_istore_n (lv' := [(3, .int v47131), (4, .int 1), (6, .int v47130), (5, .int v47131), (0, .ref am), (2, .int p2)]) hx hb dX13_caught_175 rfl hl (by decide) rfl (fun ls hl => ?_)
                      refine lv_goto (tgt := 45) hx hb dX13_caught_176 (by decide) ?_
                      have hk_1 : (1 : Int32).toInt = 1 := by decide
                      exact ih_l46386 1 v47131 v47820 _ _ _ (by omega) (by omega) (by omega) (by omega) (by omega) (by omega) hM hS hIF hFF hf47822 (by omega) _ (lv_sub hl [1, 0, 4, 5] rfl)
                  · have hc47766 : ¬ (v38896.toInt ≤ v47130.toInt) := fun h9 => c9 ((fi_le rfl rfl).mpr h9)
                    refine lv_aload_n hx hb dX13_caught_67 rfl (lv_at hl 3 rfl) ?_
                    refine mz_getR hx hb htl hown hK hM 3 (Nat.le_of_ble_eq_true rfl) (Nat.le_of_ble_eq_true rfl) (htl _ mw_188) (fun _ h9 => h9) dX13_caught_68 ?_
                    refine lv_bipush (v := 108) hx hb dX13_caught_71 (by decide) ?_
                    refine lv_iload hx hb dX13_caught_73 (lv_at hl 0 rfl) ?_
                    refine lv_iadd hx hb dX13_caught_75 ?_
                    refine tk_add (show (108 : Int32).toInt = 108 by decide) rfl (by omega) (by omega) (fun v47823 h_v47823 => ?_)
                    refine mz_iald hx hb hK hM 3 (Nat.le_of_ble_eq_true rfl) rfl (nn := 5560) rfl rfl (by omega) (by omega) dX13_caught_76 (fun v47824 e_v47824 => ?_)
                    have hq_v47824 := tk_rng v47824
                    refine lv_iload_n hx hb dX13_caught_77 rfl (lv_at hl 2 rfl) ?_
                    refine lv_iand hx hb dX13_caught_78 ?_
                    refine tk_any (fun v47825 => ?_)
                    refine lv_iload_n hx hb dX13_caught_79 rfl (lv_at hl 4 rfl) ?_
                    refine lv_iconst (v := (-1)) hx hb dX13_caught_80 (by decide) ?_
                    refine lv_ixor hx hb dX13_caught_81 ?_
                    refine tk_any (fun v47826 => ?_)
                    refine lv_iand hx hb dX13_caught_82 ?_
                    refine tk_any (fun v47827 => ?_)
                    have hj47831 : ∀ (v47830 : Int32), (0 ≤ v47830.toInt) → (v47830.toInt ≤ 1) → ∀ ls : Array Slot, lv_has ls 8 [(6, .int v47130), (5, .int v47131), (3, .int v38908), (0, .ref am), (2, .int p2)] → W p l e ({ frames := 4, cells := 0, slots := 0, locals := 210 }) s m args below meth c H locs 0 0 (MQ below (mz_i D cy ad am (fun r F G R S => mz_IF true F ∧ mz_IG G ∧ mz_IR [] true R ∧ (∀ k : Nat, k ∉ ([60] : List Nat) → F k = Fa k) ∧ (∀ k : Nat, k ∉ ([] : List Nat) → R k = Ra k) ∧ (∀ k : Nat, k ∉ ([] : List Nat) → G k = Ga k) ∧ 0 ≤ r.toInt ∧ r.toInt ≤ 255)) args s 0 0 (mz_W ad am)) (F0 m 91 ls [.int v47830]) := by
                      intro v47830 hq0_j47831 hq1_j47831 ls hl
                      refine lv_istore (lv' := [(7, .int v47830), (6, .int v47130), (5, .int v47131), (3, .int v38908), (0, .ref am), (2, .int p2)]) hx hb dX13_caught_91 hl (by decide) rfl (fun ls hl => ?_)
                      refine lv_iload hx hb dX13_caught_93 (lv_at hl 2 rfl) ?_
                      refine lv_iload hx hb dX13_caught_95 (lv_at hl 0 rfl) ?_
                      have hj47853 : ∀ (v47851 : Int32) (H : Heap) (locs : List Loc), (0 ≤ v47851.toInt) → (v47851.toInt ≤ 128) → (mz_S D cy ad am F Ga Ra Sa H) → (va_S (mz_W ad am) s.heap H locs) → ∀ ls : Array Slot, lv_has ls 8 [(6, .int v47130), (3, .int v38908), (0, .ref am), (2, .int p2)] → W p l e ({ frames := 4, cells := 0, slots := 0, locals := 210 }) s m args below meth c H locs 0 0 (MQ below (mz_i D cy ad am (fun r F G R S => mz_IF true F ∧ mz_IG G ∧ mz_IR [] true R ∧ (∀ k : Nat, k ∉ ([60] : List Nat) → F k = Fa k) ∧ (∀ k : Nat, k ∉ ([] : List Nat) → R k = Ra k) ∧ (∀ k : Nat, k ∉ ([] : List Nat) → G k = Ga k) ∧ 0 ≤ r.toInt ∧ r.toInt ≤ 255)) args s 0 0 (mz_W ad am)) (F0 m 132 ls [.int v47851, .int v47131]) := by
                        intro v47851 H locs hq0_j47853 hq1_j47853 hM hS ls hl
                        refine lv_ior hx hb dX13_caught_132 ?_
                        refine tk_say (P := fun z => (v47131 : Int32).toInt ≤ z.toInt ∧ (v47851 : Int32).toInt ≤ z.toInt ∧ z.toInt ≤ 255) (tk_or (by omega) (by omega) (by omega) (by omega)) (fun v47854 h_v47854 => ?_)
                        refine lv_istore (lv' := [(5, .int v47854), (6, .int v47130), (3, .int v38908), (0, .ref am), (2, .int p2)]) hx hb dX13_caught_133 hl (by decide) rfl (fun ls hl => ?_)
                        obtain ⟨v47855, h_v47855, e_v47855⟩ := tk_inc v47130 1 (by decide) (by omega) (by omega)
                        refine lv_iinc (v := v47855) (lv' := [(6, .int v47855), (5, .int v47854), (3, .int v38908), (0, .ref am), (2, .int p2)]) hx hb dX13_caught_135 hl (k := 1) rfl e_v47855 (by decide) rfl (fun ls hl => ?_)
                        refine lv_goto (tgt := 56) hx hb dX13_caught_138 (by decide) ?_
                        exact ih_l47765 v47855 v47854 _ _ (by omega) (by omega) (by omega) (by omega) hM hS (by omega) _ (lv_sub hl [0, 1, 2, 3, 4] rfl)
                      refine lv_if_eq (tgt := 131) hx hb dX13_caught_97 (by decide) (fun c9 => ?_) (fun c9 => ?_)
                      · have hc47832 : v47830.toInt = 0 := (fi_eq rfl (show (0 : Int32).toInt = 0 by decide)).mp c9
                        refine lv_iconst (v := 0) hx hb dX13_caught_131 (by decide) ?_
                        have hk_0 : (0 : Int32).toInt = 0 := by decide
                        exact hj47853 0 _ _ (by omega) (by omega) hM hS _ (lv_sub hl [1, 3, 4, 5] rfl)
                      · have hc47832 : ¬ (v47830.toInt = 0) := fun h9 => c9 ((fi_eq rfl (show (0 : Int32).toInt = 0 by decide)).mpr h9)
                        refine lv_iload_n hx hb dX13_caught_100 rfl (lv_at hl 5 rfl) ?_
                        refine lv_iload hx hb dX13_caught_101 (lv_at hl 1 rfl) ?_
                        refine mz_Sj (As := [.int p2, .int v47130]) (rest := [.int v47131]) ⟨hx, hb, hml, hown, hts⟩ hK hM hS (k_X13_is l D cy ld ad am hD _ _ _ _ p2 v47130) ⟨callB_of 2 hts (wl_in mw_1602) rfl rfl rfl (htl _ mw_5) (htl _ mw_1600) hd_yX13_is ⟨(Nat.le_of_ble_eq_true rfl), (Nat.le_of_ble_eq_true rfl)⟩, htl _ mw_1601⟩ rfl hl.1 rfl (Nat.le_of_ble_eq_true rfl) dX13_caught_103 ⟨(Nat.le_of_ble_eq_true rfl), (Nat.le_of_ble_eq_true rfl)⟩ (fun v47856 H locs hpo hM hS => ?_)
                        obtain ⟨hpo47857, hpo47858, hpo47859, hpo47860⟩ := hpo
                        have hq_v47856 := tk_rng v47856
                        refine lv_if_ne (tgt := 131) hx hb dX13_caught_106 (by decide) (fun c9 => ?_) (fun c9 => ?_)
                        · have hc47862 : ¬ (v47856.toInt = 0) := fun h9 => c9 ((fi_eq rfl (show (0 : Int32).toInt = 0 by decide)).mpr h9)
                          refine lv_iconst (v := 0) hx hb dX13_caught_131 (by decide) ?_
                          have hk_0 : (0 : Int32).toInt = 0 := by decide
                          exact hj47853 0 _ _ (by omega) (by omega) hM hS _ (lv_sub hl [1, 3, 4, 5] rfl)
                        · have hc47862 : v47856.toInt = 0 := (fi_eq rfl (show (0 : Int32).toInt = 0 by decide)).mp c9
                          refine lv_aload_n hx hb dX13_caught_109 rfl (lv_at hl 4 rfl) ?_
                          refine lv_iload hx hb dX13_caught_110 (lv_at hl 1 rfl) ?_
                          refine lv_iconst (v := 0) hx hb dX13_caught_112 (by decide) ?_
                          have hk_0 : (0 : Int32).toInt = 0 := by decide
                          refine mz_Vj (As := [.int v47130, .int 0]) (rest := [.int v47131]) ⟨hx, hb, hml, hown, hts⟩ hK hM hS (k_X13_ofSinger_0 l D cy ld ad am hD _ _ _ _ v47130 (hIF.weak) hIG hIR (by omega) (by omega)) ⟨callB_of 2 hts (wl_in mw_324) rfl rfl rfl (htl _ mw_5) (htl _ mw_321) hd_yX13_ofSinger ⟨(Nat.le_of_ble_eq_true rfl), (Nat.le_of_ble_eq_true rfl)⟩, htl _ mw_322, htl _ mw_323⟩ rfl hl.1 rfl (Nat.le_of_ble_eq_true rfl) dX13_caught_113 ⟨(Nat.le_of_ble_eq_true rfl), (Nat.le_of_ble_eq_true rfl)⟩ (fun v47863 H locs hpo hM hS => ?_)
                          have hq_v47863 := tk_rng v47863
                          refine lv_aload_n hx hb dX13_caught_116 rfl (lv_at hl 4 rfl) ?_
                          refine lv_iconst (v := 2) hx hb dX13_caught_117 (by decide) ?_
                          obtain ⟨v47866, hf47865⟩ : ∃ z : Int32, Ra 3 8 = z := ⟨_, rfl⟩
                          have hq_v47866 := tk_rng v47866
                          have hk_2 : (2 : Int32).toInt = 2 := by decide
                          refine mz_Vj (As := [.int 2]) (rest := [.int v47863, .int v47131]) ⟨hx, hb, hml, hown, hts⟩ hK hM hS (k_X13_term_2 l D cy ld ad am hD _ _ _ _ v47866 hf47865) ⟨callB_of 1 hts (wl_in mw_1042) rfl rfl rfl (htl _ mw_5) (htl _ mw_1039) hd_yX13_term ⟨(Nat.le_of_ble_eq_true rfl), (Nat.le_of_ble_eq_true rfl)⟩, htl _ mw_1040, htl _ mw_1041⟩ rfl hl.1 rfl (Nat.le_of_ble_eq_true rfl) dX13_caught_118 ⟨(Nat.le_of_ble_eq_true rfl), (Nat.le_of_ble_eq_true rfl)⟩ (fun v47867 H locs hpo hM hS => ?_)
                          have hpo47868 := hpo
                          have hq_v47867 := tk_rng v47867
                          refine lv_icmp_gt (tgt := 131) hx hb dX13_caught_121 (by decide) (fun c9 => ?_) (fun c9 => ?_)
                          · have hc47870 : v47867.toInt < v47863.toInt := (fi_lt rfl rfl).mp c9
                            refine lv_iconst (v := 0) hx hb dX13_caught_131 (by decide) ?_
                            have hk_0 : (0 : Int32).toInt = 0 := by decide
                            exact hj47853 0 _ _ (by omega) (by omega) hM hS _ (lv_sub hl [1, 3, 4, 5] rfl)
                          · have hc47870 : ¬ (v47867.toInt < v47863.toInt) := fun h9 => c9 ((fi_lt rfl rfl).mpr h9)
                            refine lv_iconst (v := 1) hx hb dX13_caught_124 (by decide) ?_
                            refine lv_iload hx hb dX13_caught_125 (lv_at hl 1 rfl) ?_
                            have hk_1 : (1 : Int32).toInt = 1 := by decide
                            refine lv_ishl hx hb dX13_caught_127 ?_
                            refine tk_say (P := fun z => 0 ≤ z.toInt ∧ z.toInt ≤ 128) (tk_sh7 (x := 1) (y := v47130) (by omega) (by omega) (by omega) (by omega)) (fun v47871 h_v47871 => ?_)
                            refine lv_goto (tgt := 132) hx hb dX13_caught_128 (by decide) ?_
                            exact hj47853 v47871 _ _ (by omega) (by omega) hM hS _ (lv_sub hl [1, 3, 4, 5] rfl)
                    refine lv_if_eq (tgt := 90) hx hb dX13_caught_83 (by decide) (fun c9 => ?_) (fun c9 => ?_)
                    · have hc47828 : v47827.toInt = 0 := (fi_eq rfl (show (0 : Int32).toInt = 0 by decide)).mp c9
                      refine lv_iconst (v := 0) hx hb dX13_caught_90 (by decide) ?_
                      have hk_0 : (0 : Int32).toInt = 0 := by decide
                      exact hj47831 0 (by omega) (by omega) _ (lv_sub hl [0, 1, 2, 3, 4] rfl)
                    · have hc47828 : ¬ (v47827.toInt = 0) := fun h9 => c9 ((fi_eq rfl (show (0 : Int32).toInt = 0 by decide)).mpr h9)
                      refine lv_iconst (v := 1) hx hb dX13_caught_86 (by decide) ?_
                      refine lv_goto (tgt := 91) hx hb dX13_caught_87 (by decide) ?_
                      have hk_1 : (1 : Int32).toInt = 1 := by decide
                      exact hj47831 1 (by omega) (by omega) _ (lv_sub hl [0, 1, 2, 3, 4] rfl)
              have hk_0 : (0 : Int32).toInt = 0 := by decide
              exact hl47765 9 0 v38908 _ _ (by omega) (by omega) (by omega) (by omega) hM hS (by omega) _ (lv_sub hl [0, 1, 3, 4, 5] rfl)
        have hk_1 : (1 : Int32).toInt = 1 := by decide
        have hk_0 : (0 : Int32).toInt = 0 := by decide
        exact hl46386 520 1 v11992 0 _ _ _ (by omega) (by omega) (by omega) (by omega) (by omega) (by omega) hM hS hIF hFF hf38906 (by omega) _ (lv_sub hl [0, 1, 2, 3] rfl)
      · have hc38897 : ¬ (v38896.toInt ≤ v11991.toInt) := fun h9 => c9 ((fi_le rfl rfl).mpr h9)
        refine lv_iload_n hx hb dX13_caught_18 rfl (lv_at hl 1 rfl) ?_
        refine lv_aload_n hx hb dX13_caught_19 rfl (lv_at hl 2 rfl) ?_
        refine lv_iload hx hb dX13_caught_20 (lv_at hl 0 rfl) ?_
        refine lv_iconst (v := 3) hx hb dX13_caught_22 (by decide) ?_
        have hk_3 : (3 : Int32).toInt = 3 := by decide
        refine mz_Vj (As := [.int v11991, .int 3]) (rest := [.int v11992]) ⟨hx, hb, hml, hown, hts⟩ hK hM hS (k_X13_ofSinger_3 l D cy ld ad am hD _ _ _ _ v11991 (hIF.weak) hIG hIR (by omega) (by omega)) ⟨callB_of 2 hts (wl_in mw_324) rfl rfl rfl (htl _ mw_5) (htl _ mw_321) hd_yX13_ofSinger ⟨(Nat.le_of_ble_eq_true rfl), (Nat.le_of_ble_eq_true rfl)⟩, htl _ mw_322, htl _ mw_323⟩ rfl hl.1 rfl (Nat.le_of_ble_eq_true rfl) dX13_caught_23 ⟨(Nat.le_of_ble_eq_true rfl), (Nat.le_of_ble_eq_true rfl)⟩ (fun v47872 H locs hpo hM hS => ?_)
        obtain ⟨hpo47873, hpo47874⟩ := hpo
        have hq_v47872 := tk_rng v47872
        refine lv_iload hx hb dX13_caught_26 (lv_at hl 0 rfl) ?_
        refine lv_ishl hx hb dX13_caught_28 ?_
        refine tk_say (P := fun z => 0 ≤ z.toInt ∧ z.toInt ≤ 128) (tk_sh7 (x := v47872) (y := v11991) (by omega) (by omega) (by omega) (by omega)) (fun v47876 h_v47876 => ?_)
        refine lv_ior hx hb dX13_caught_29 ?_
        refine tk_say (P := fun z => (v11992 : Int32).toInt ≤ z.toInt ∧ (v47876 : Int32).toInt ≤ z.toInt ∧ z.toInt ≤ 255) (tk_or (by omega) (by omega) (by omega) (by omega)) (fun v47877 h_v47877 => ?_)
        refine lv_istore_n (lv' := [(3, .int v47877), (4, .int v11991), (0, .ref am), (2, .int p2)]) hx hb dX13_caught_30 rfl hl (by decide) rfl (fun ls hl => ?_)
        obtain ⟨v47878, h_v47878, e_v47878⟩ := tk_inc v11991 1 (by decide) (by omega) (by omega)
        refine lv_iinc (v := v47878) (lv' := [(4, .int v47878), (3, .int v47877), (0, .ref am), (2, .int p2)]) hx hb dX13_caught_31 hl (k := 1) rfl e_v47878 (by decide) rfl (fun ls hl => ?_)
        refine lv_goto (tgt := 7) hx hb dX13_caught_34 (by decide) ?_
        exact ih_l38894 v47878 v47877 _ _ (by omega) (by omega) (by omega) (by omega) hM hS (by omega) _ (lv_sub hl [0, 1, 2, 3] rfl)
  have hk_0 : (0 : Int32).toInt = 0 := by decide
  exact hl38894 9 0 v1 _ _ (by omega) (by omega) (by omega) (by omega) hM hS (by omega) _ (lv_sub hl [0, 1, 2, 4] rfl)
