section
theorem dX13_binds_0 : decode cX13_binds 0 = .ok (.iload_n 0, 1) := by decide +kernel
theorem dX13_binds_1 : decode cX13_binds 1 = .ok (.bipush 31, 2) := by decide +kernel
theorem dX13_binds_3 : decode cX13_binds 3 = .ok (.if_icmp .lt 7, 3) := by decide +kernel
theorem dX13_binds_10 : decode cX13_binds 10 = .ok (.iload_n 0, 1) := by decide +kernel
theorem dX13_binds_11 : decode cX13_binds 11 = .ok (.bipush 30, 2) := by decide +kernel
theorem dX13_binds_13 : decode cX13_binds 13 = .ok (.if_icmp .ne 7, 3) := by decide +kernel
theorem dX13_binds_20 : decode cX13_binds 20 = .ok (.iload_n 0, 1) := by decide +kernel
theorem dX13_binds_21 : decode cX13_binds 21 = .ok (.bipush 29, 2) := by decide +kernel
theorem dX13_binds_23 : decode cX13_binds 23 = .ok (.if_icmp .ne 7, 3) := by decide +kernel
theorem dX13_binds_30 : decode cX13_binds 30 = .ok (.iload_n 0, 1) := by decide +kernel
theorem dX13_binds_31 : decode cX13_binds 31 = .ok (.bipush 28, 2) := by decide +kernel
theorem dX13_binds_33 : decode cX13_binds 33 = .ok (.if_icmp .ne 7, 3) := by decide +kernel
theorem dX13_binds_40 : decode cX13_binds 40 = .ok (.iload_n 0, 1) := by decide +kernel
theorem dX13_binds_41 : decode cX13_binds 41 = .ok (.bipush 25, 2) := by decide +kernel
theorem dX13_binds_43 : decode cX13_binds 43 = .ok (.if_icmp .lt 7, 3) := by decide +kernel
theorem dX13_binds_50 : decode cX13_binds 50 = .ok (.iload_n 0, 1) := by decide +kernel
theorem dX13_binds_51 : decode cX13_binds 51 = .ok (.bipush 22, 2) := by decide +kernel
theorem dX13_binds_53 : decode cX13_binds 53 = .ok (.if_icmp .lt 8, 3) := by decide +kernel
theorem dX13_binds_61 : decode cX13_binds 61 = .ok (.iconst 5, 1) := by decide +kernel
theorem dX13_binds_62 : decode cX13_binds 62 = .ok (.ireturn, 1) := by decide +kernel
theorem dX13_binds_56 : decode cX13_binds 56 = .ok (.bipush 6, 2) := by decide +kernel
theorem dX13_binds_58 : decode cX13_binds 58 = .ok (.goto 4, 3) := by decide +kernel
theorem dX13_binds_46 : decode cX13_binds 46 = .ok (.iconst 4, 1) := by decide +kernel
theorem dX13_binds_47 : decode cX13_binds 47 = .ok (.goto 15, 3) := by decide +kernel
theorem dX13_binds_36 : decode cX13_binds 36 = .ok (.iconst 3, 1) := by decide +kernel
theorem dX13_binds_37 : decode cX13_binds 37 = .ok (.goto 25, 3) := by decide +kernel
theorem dX13_binds_26 : decode cX13_binds 26 = .ok (.iconst 2, 1) := by decide +kernel
theorem dX13_binds_27 : decode cX13_binds 27 = .ok (.goto 35, 3) := by decide +kernel
theorem dX13_binds_16 : decode cX13_binds 16 = .ok (.iconst 1, 1) := by decide +kernel
theorem dX13_binds_17 : decode cX13_binds 17 = .ok (.goto 45, 3) := by decide +kernel
theorem dX13_binds_6 : decode cX13_binds 6 = .ok (.iconst 0, 1) := by decide +kernel
theorem dX13_binds_7 : decode cX13_binds 7 = .ok (.goto 55, 3) := by decide +kernel
set_option maxHeartbeats 4000000 in
set_option maxRecDepth 100000 in
theorem k_X13_binds (l : Launch) (D : va_G) (cy : Nat → ClassId) (ld ad : Nat → Nat) (am : Nat) (hD : mz_D ad am) (Fa : Nat → Int32) (Ga : Nat → Int64) (Ra : Nat → Nat → Int32) (Sa : Nat → Nat → Int64) (p0 : Int32) : Met l yX13_binds (wl yX13_binds cX13_binds 1 (some .int)) ({ frames := 3, cells := 0, slots := 0, locals := 140 }) (mz_p D cy ld ad am Fa Ga Ra Sa [.int p0]) (mz_j D cy ad am Fa Ga Ra Sa (fun r => (1 ≤ r.toInt → p0.toInt ≤ 30) ∧ (r.toInt ≤ 0 → 31 ≤ p0.toInt) ∧ (r.toInt ≤ 4 → 25 ≤ p0.toInt) ∧ (p0.toInt ≤ 30 → 1 ≤ r.toInt) ∧ 0 ≤ r.toInt ∧ r.toInt ≤ 6)) 0 0 (mz_W ad am) := by
  refine mz_met (y := yX13_binds) (cc := cX13_binds) (maxL := 1) (ret := (some .int)) (av := [.int p0]) _ (by decide) (Nat.le_of_ble_eq_true rfl) ?_
  intro p e s m args below meth c hx hb hr hml hts htl hown hlocks hK H locs hM hS ls hl
  have hown : s.vm.findClass RX13 = some m.cls := hown
  have hl : lv_has ls 1 [(0, .int p0)] := hl
  have hr_p0 := tk_rng p0
  refine lv_iload_n hx hb dX13_binds_0 rfl (lv_at hl 0 rfl) ?_
  refine lv_bipush (v := 31) hx hb dX13_binds_1 (by decide) ?_
  refine lv_icmp_lt (tgt := 10) hx hb dX13_binds_3 (by decide) (fun c9 => ?_) (fun c9 => ?_)
  · have hc1 : p0.toInt < 31 := (fi_lt rfl (show (31 : Int32).toInt = 31 by decide)).mp c9
    refine lv_iload_n hx hb dX13_binds_10 rfl (lv_at hl 0 rfl) ?_
    refine lv_bipush (v := 30) hx hb dX13_binds_11 (by decide) ?_
    refine lv_icmp_ne (tgt := 20) hx hb dX13_binds_13 (by decide) (fun c9 => ?_) (fun c9 => ?_)
    · have hc2 : ¬ (p0.toInt = 30) := fun h9 => c9 ((fi_eq rfl (show (30 : Int32).toInt = 30 by decide)).mpr h9)
      refine lv_iload_n hx hb dX13_binds_20 rfl (lv_at hl 0 rfl) ?_
      refine lv_bipush (v := 29) hx hb dX13_binds_21 (by decide) ?_
      refine lv_icmp_ne (tgt := 30) hx hb dX13_binds_23 (by decide) (fun c9 => ?_) (fun c9 => ?_)
      · have hc3 : ¬ (p0.toInt = 29) := fun h9 => c9 ((fi_eq rfl (show (29 : Int32).toInt = 29 by decide)).mpr h9)
        refine lv_iload_n hx hb dX13_binds_30 rfl (lv_at hl 0 rfl) ?_
        refine lv_bipush (v := 28) hx hb dX13_binds_31 (by decide) ?_
        refine lv_icmp_ne (tgt := 40) hx hb dX13_binds_33 (by decide) (fun c9 => ?_) (fun c9 => ?_)
        · have hc4 : ¬ (p0.toInt = 28) := fun h9 => c9 ((fi_eq rfl (show (28 : Int32).toInt = 28 by decide)).mpr h9)
          refine lv_iload_n hx hb dX13_binds_40 rfl (lv_at hl 0 rfl) ?_
          refine lv_bipush (v := 25) hx hb dX13_binds_41 (by decide) ?_
          refine lv_icmp_lt (tgt := 50) hx hb dX13_binds_43 (by decide) (fun c9 => ?_) (fun c9 => ?_)
          · have hc5 : p0.toInt < 25 := (fi_lt rfl (show (25 : Int32).toInt = 25 by decide)).mp c9
            refine lv_iload_n hx hb dX13_binds_50 rfl (lv_at hl 0 rfl) ?_
            refine lv_bipush (v := 22) hx hb dX13_binds_51 (by decide) ?_
            refine lv_icmp_lt (tgt := 61) hx hb dX13_binds_53 (by decide) (fun c9 => ?_) (fun c9 => ?_)
            · have hc6 : p0.toInt < 22 := (fi_lt rfl (show (22 : Int32).toInt = 22 by decide)).mp c9
              refine lv_iconst (v := 5) hx hb dX13_binds_61 (by decide) ?_
              have hk_5 : (5 : Int32).toInt = 5 := by decide
              exact mz_jret (v := 5) hx hb hr rfl hlocks ⟨(by omega), (by omega), (by omega), (by omega), (by omega), (by omega)⟩ hM hS dX13_binds_62
            · have hc6 : ¬ (p0.toInt < 22) := fun h9 => c9 ((fi_lt rfl (show (22 : Int32).toInt = 22 by decide)).mpr h9)
              refine lv_bipush (v := 6) hx hb dX13_binds_56 (by decide) ?_
              refine lv_goto (tgt := 62) hx hb dX13_binds_58 (by decide) ?_
              have hk_6 : (6 : Int32).toInt = 6 := by decide
              exact mz_jret (v := 6) hx hb hr rfl hlocks ⟨(by omega), (by omega), (by omega), (by omega), (by omega), (by omega)⟩ hM hS dX13_binds_62
          · have hc5 : ¬ (p0.toInt < 25) := fun h9 => c9 ((fi_lt rfl (show (25 : Int32).toInt = 25 by decide)).mpr h9)
            refine lv_iconst (v := 4) hx hb dX13_binds_46 (by decide) ?_
            refine lv_goto (tgt := 62) hx hb dX13_binds_47 (by decide) ?_
            have hk_4 : (4 : Int32).toInt = 4 := by decide
            exact mz_jret (v := 4) hx hb hr rfl hlocks ⟨(by omega), (by omega), (by omega), (by omega), (by omega), (by omega)⟩ hM hS dX13_binds_62
        · have hc4 : p0.toInt = 28 := (fi_eq rfl (show (28 : Int32).toInt = 28 by decide)).mp c9
          refine lv_iconst (v := 3) hx hb dX13_binds_36 (by decide) ?_
          refine lv_goto (tgt := 62) hx hb dX13_binds_37 (by decide) ?_
          have hk_3 : (3 : Int32).toInt = 3 := by decide
          exact mz_jret (v := 3) hx hb hr rfl hlocks ⟨(by omega), (by omega), (by omega), (by omega), (by omega), (by omega)⟩ hM hS dX13_binds_62
      · have hc3 : p0.toInt = 29 := (fi_eq rfl (show (29 : Int32).toInt = 29 by decide)).mp c9
        refine lv_iconst (v := 2) hx hb dX13_binds_26 (by decide) ?_
        refine lv_goto (tgt := 62) hx hb dX13_binds_27 (by decide) ?_
        have hk_2 : (2 : Int32).toInt = 2 := by decide
        exact mz_jret (v := 2) hx hb hr rfl hlocks ⟨(by omega), (by omega), (by omega), (by omega), (by omega), (by omega)⟩ hM hS dX13_binds_62
    · have hc2 : p0.toInt = 30 := (fi_eq rfl (show (30 : Int32).toInt = 30 by decide)).mp c9
      refine lv_iconst (v := 1) hx hb dX13_binds_16 (by decide) ?_
      refine lv_goto (tgt := 62) hx hb dX13_binds_17 (by decide) ?_
      have hk_1 : (1 : Int32).toInt = 1 := by decide
      exact mz_jret (v := 1) hx hb hr rfl hlocks ⟨(by omega), (by omega), (by omega), (by omega), (by omega), (by omega)⟩ hM hS dX13_binds_62
  · have hc1 : ¬ (p0.toInt < 31) := fun h9 => c9 ((fi_lt rfl (show (31 : Int32).toInt = 31 by decide)).mpr h9)
    refine lv_iconst (v := 0) hx hb dX13_binds_6 (by decide) ?_
    refine lv_goto (tgt := 62) hx hb dX13_binds_7 (by decide) ?_
    have hk_0 : (0 : Int32).toInt = 0 := by decide
    exact mz_jret (v := 0) hx hb hr rfl hlocks ⟨(by omega), (by omega), (by omega), (by omega), (by omega), (by omega)⟩ hM hS dX13_binds_62
end
section
theorem hd_yX13_binds : yX13_binds.cls ≠ "java/lang/invoke/MethodHandle" ∧ yX13_binds.cls ≠ "java/lang/invoke/VarHandle" ∧ (parseMethodDescriptor yX13_binds.desc).map (fun d => d.parameters.length) = some 1 := by decide +kernel
theorem hd_yX13_emit : yX13_emit.cls ≠ "java/lang/invoke/MethodHandle" ∧ yX13_emit.cls ≠ "java/lang/invoke/VarHandle" ∧ (parseMethodDescriptor yX13_emit.desc).map (fun d => d.parameters.length) = some 2 := by decide +kernel
theorem dX13_settle_0 : decode cX13_settle 0 = .ok (.aload_n 0, 1) := by decide +kernel
theorem dX13_settle_1 : decode cX13_settle 1 = .ok (.getfield 278, 3) := by decide +kernel
theorem dX13_settle_4 : decode cX13_settle 4 = .ok (.ifCond .le 97, 3) := by decide +kernel
theorem dX13_settle_101 : decode cX13_settle 101 = .ok (.return_, 1) := by decide +kernel
theorem dX13_settle_7 : decode cX13_settle 7 = .ok (.aload_n 0, 1) := by decide +kernel
theorem dX13_settle_8 : decode cX13_settle 8 = .ok (.getfield 51, 3) := by decide +kernel
theorem dX13_settle_11 : decode cX13_settle 11 = .ok (.aload_n 0, 1) := by decide +kernel
theorem dX13_settle_12 : decode cX13_settle 12 = .ok (.getfield 278, 3) := by decide +kernel
theorem dX13_settle_15 : decode cX13_settle 15 = .ok (.iconst 1, 1) := by decide +kernel
theorem dX13_settle_16 : decode cX13_settle 16 = .ok (.isub, 1) := by decide +kernel
theorem dX13_settle_17 : decode cX13_settle 17 = .ok (.iaload, 1) := by decide +kernel
theorem dX13_settle_18 : decode cX13_settle 18 = .ok (.invokestatic 281, 3) := by decide +kernel
theorem dX13_settle_21 : decode cX13_settle 21 = .ok (.iload_n 1, 1) := by decide +kernel
theorem dX13_settle_22 : decode cX13_settle 22 = .ok (.if_icmp .lt 79, 3) := by decide +kernel
theorem dX13_settle_25 : decode cX13_settle 25 = .ok (.aload_n 0, 1) := by decide +kernel
theorem dX13_settle_26 : decode cX13_settle 26 = .ok (.dup, 1) := by decide +kernel
theorem dX13_settle_27 : decode cX13_settle 27 = .ok (.getfield 278, 3) := by decide +kernel
theorem dX13_settle_30 : decode cX13_settle 30 = .ok (.iconst 1, 1) := by decide +kernel
theorem dX13_settle_31 : decode cX13_settle 31 = .ok (.isub, 1) := by decide +kernel
theorem dX13_settle_32 : decode cX13_settle 32 = .ok (.putfield 278, 3) := by decide +kernel
theorem dX13_settle_35 : decode cX13_settle 35 = .ok (.aload_n 0, 1) := by decide +kernel
theorem dX13_settle_36 : decode cX13_settle 36 = .ok (.getfield 51, 3) := by decide +kernel
theorem dX13_settle_39 : decode cX13_settle 39 = .ok (.aload_n 0, 1) := by decide +kernel
theorem dX13_settle_40 : decode cX13_settle 40 = .ok (.getfield 278, 3) := by decide +kernel
theorem dX13_settle_43 : decode cX13_settle 43 = .ok (.iaload, 1) := by decide +kernel
theorem dX13_settle_44 : decode cX13_settle 44 = .ok (.bipush 29, 2) := by decide +kernel
theorem dX13_settle_46 : decode cX13_settle 46 = .ok (.if_icmp .eq 17, 3) := by decide +kernel
theorem dX13_settle_63 : decode cX13_settle 63 = .ok (.aload_n 0, 1) := by decide +kernel
theorem dX13_settle_64 : decode cX13_settle 64 = .ok (.getfield 48, 3) := by decide +kernel
theorem dX13_settle_67 : decode cX13_settle 67 = .ok (.aload_n 0, 1) := by decide +kernel
theorem dX13_settle_68 : decode cX13_settle 68 = .ok (.getfield 54, 3) := by decide +kernel
theorem dX13_settle_71 : decode cX13_settle 71 = .ok (.aload_n 0, 1) := by decide +kernel
theorem dX13_settle_72 : decode cX13_settle 72 = .ok (.getfield 278, 3) := by decide +kernel
theorem dX13_settle_75 : decode cX13_settle 75 = .ok (.iaload, 1) := by decide +kernel
theorem dX13_settle_76 : decode cX13_settle 76 = .ok (.aload_n 0, 1) := by decide +kernel
theorem dX13_settle_77 : decode cX13_settle 77 = .ok (.getfield 275, 3) := by decide +kernel
theorem dX13_settle_80 : decode cX13_settle 80 = .ok (.iastore, 1) := by decide +kernel
theorem dX13_settle_81 : decode cX13_settle 81 = .ok (.goto (-81), 3) := by decide +kernel
theorem dX13_settle_49 : decode cX13_settle 49 = .ok (.aload_n 0, 1) := by decide +kernel
theorem dX13_settle_50 : decode cX13_settle 50 = .ok (.getfield 51, 3) := by decide +kernel
theorem dX13_settle_53 : decode cX13_settle 53 = .ok (.aload_n 0, 1) := by decide +kernel
theorem dX13_settle_54 : decode cX13_settle 54 = .ok (.getfield 278, 3) := by decide +kernel
theorem dX13_settle_57 : decode cX13_settle 57 = .ok (.iaload, 1) := by decide +kernel
theorem dX13_settle_58 : decode cX13_settle 58 = .ok (.bipush 30, 2) := by decide +kernel
theorem dX13_settle_60 : decode cX13_settle 60 = .ok (.if_icmp .ne 24, 3) := by decide +kernel
theorem dX13_settle_84 : decode cX13_settle 84 = .ok (.aload_n 0, 1) := by decide +kernel
theorem dX13_settle_85 : decode cX13_settle 85 = .ok (.aload_n 0, 1) := by decide +kernel
theorem dX13_settle_86 : decode cX13_settle 86 = .ok (.getfield 51, 3) := by decide +kernel
theorem dX13_settle_89 : decode cX13_settle 89 = .ok (.aload_n 0, 1) := by decide +kernel
theorem dX13_settle_90 : decode cX13_settle 90 = .ok (.getfield 278, 3) := by decide +kernel
theorem dX13_settle_93 : decode cX13_settle 93 = .ok (.iaload, 1) := by decide +kernel
theorem dX13_settle_94 : decode cX13_settle 94 = .ok (.iconst 0, 1) := by decide +kernel
theorem dX13_settle_95 : decode cX13_settle 95 = .ok (.invokevirtual 284, 3) := by decide +kernel
theorem dX13_settle_98 : decode cX13_settle 98 = .ok (.goto (-98), 3) := by decide +kernel
set_option maxHeartbeats 4000000 in
set_option maxRecDepth 100000 in
theorem k_X13_settle (l : Launch) (D : va_G) (cy : Nat → ClassId) (ld ad : Nat → Nat) (am : Nat) (hD : mz_D ad am) (Fa : Nat → Int32) (Ga : Nat → Int64) (Ra : Nat → Nat → Int32) (Sa : Nat → Nat → Int64) (p1 : Int32) (gc : Int32) (gd : Int32) (gb : Int32) (zs : Nat) (hIF : mz_IF false Fa) (hIG : mz_IG Ga) (hIR : mz_IR [] true Ra) (hg_0 : Fa 23 = gc) (hg_1 : Fa 29 = gd) (hg_2 : Fa 19 = gb) (hp_0 : 1 ≤ p1.toInt) (hp_1 : p1.toInt ≤ 6) (hp_2 : 0 ≤ (-1) * gc.toInt + (-1) * gd.toInt + 400) (hx_0 : gb.toInt = 0 → PI (Ra 24) (Ra 25) (Ra 27) (Ra 28) zs gc.toInt.toNat gd.toInt.toNat 1) : Met l yX13_settle (wl yX13_settle cX13_settle 2 none) ({ frames := 4, cells := 0, slots := 0, locals := 210 }) (mz_p D cy ld ad am Fa Ga Ra Sa [.ref am, .int p1]) (mz_w D cy ad am (fun F G R S => mz_IF false F ∧ mz_IG G ∧ mz_IR [] true R ∧ (∀ k : Nat, k ∉ ([23, 29] : List Nat) → F k = Fa k) ∧ (∀ k : Nat, k ∉ ([24, 25] : List Nat) → R k = Ra k) ∧ (∀ k : Nat, k ∉ ([] : List Nat) → G k = Ga k) ∧ 0 ≤ gc.toInt + gd.toInt + (-1) * (F 23).toInt + (-1) * (F 29).toInt ∧ 0 ≤ gd.toInt + (-1) * (F 29).toInt ∧ 0 ≤ (-1) * gc.toInt + (F 23).toInt ∧ (gb.toInt = 0 → PI (R 24) (R 25) (R 27) (R 28) zs (F 23).toInt.toNat (F 29).toInt.toNat 1 ∧ low zs (Ra 24) (R 24) ∧ low zs (Ra 25) (R 25)) ∧ (∀ j : Nat, (j : Int) < gd.toInt → 31 ≤ (Ra 27 j).toInt → (j : Int) < (F 29).toInt) ∧ (1 ≤ (F 29).toInt → (p1.toInt ≤ 1 → 31 ≤ (Ra 27 ((F 29).toInt - 1).toNat).toInt) ∧ (p1.toInt ≤ 5 → 25 ≤ (Ra 27 ((F 29).toInt - 1).toNat).toInt)))) 0 0 (mz_W ad am) := by
  refine mz_met (y := yX13_settle) (cc := cX13_settle) (maxL := 2) (ret := none) (av := [.ref am, .int p1]) _ (by decide) (Nat.le_of_ble_eq_true rfl) ?_
  intro p e s m args below meth c hx hb hr hml hts htl hown hlocks hK H locs hM hS ls hl
  have hown : s.vm.findClass RX13 = some m.cls := hown
  have hl : lv_has ls 2 [(0, .ref am), (1, .int p1)] := hl
  have hr_p1 := tk_rng p1
  have hq_gc := tk_rng gc
  have hq_gd := tk_rng gd
  have hq_gb := tk_rng gb
  have hr_gc : 0 ≤ gc.toInt ∧ gc.toInt ≤ 400 := hIF.at hg_0
  have hr_gd : 0 ≤ gd.toInt ∧ gd.toInt ≤ 400 := hIF.at hg_1
  have hr_gb : 0 ≤ gb.toInt ∧ gb.toInt ≤ 1 := hIF.at hg_2
  have hl225 : ∀ (N_l225 : Nat) (v60 : Int32) (v61 : Int32) (H : Heap) (locs : List Loc) (F : Nat → Int32) (G : Nat → Int64) (R : Nat → Nat → Int32) (S : Nat → Nat → Int64), (0 ≤ v61.toInt) → (0 ≤ gc.toInt + gd.toInt + (-1) * v60.toInt + (-1) * v61.toInt) → (0 ≤ (-1) * gc.toInt + v60.toInt) → (mz_S D cy ad am F G R S H) → (va_S (mz_W ad am) s.heap H locs) → (mz_IF false F) → (mz_IG G) → (mz_IR [] true R) → (∀ k : Nat, k ∉ ([23, 29] : List Nat) → F k = Fa k) → (∀ k : Nat, k ∉ ([] : List Nat) → G k = Ga k) → (∀ k : Nat, k ∉ ([24, 25] : List Nat) → R k = Ra k) → (F 23 = v60) → (F 29 = v61) → (F 19 = gb) → (gb.toInt = 0 → PI (R 24) (R 25) (Ra 27) (Ra 28) zs v60.toInt.toNat v61.toInt.toNat 1 ∧ low zs (Ra 24) (R 24) ∧ low zs (Ra 25) (R 25)) → (∀ j : Nat, (j : Int) < gd.toInt → 31 ≤ (Ra 27 j).toInt → (j : Int) < v61.toInt) → (v61.toInt < (N_l225 : Int)) → ∀ ls : Array Slot, lv_has ls 2 [(0, .ref am), (1, .int p1)] → W p l e ({ frames := 4, cells := 0, slots := 0, locals := 210 }) s m args below meth c H locs 0 0 (MQ below (mz_w D cy ad am (fun F G R S => mz_IF false F ∧ mz_IG G ∧ mz_IR [] true R ∧ (∀ k : Nat, k ∉ ([23, 29] : List Nat) → F k = Fa k) ∧ (∀ k : Nat, k ∉ ([24, 25] : List Nat) → R k = Ra k) ∧ (∀ k : Nat, k ∉ ([] : List Nat) → G k = Ga k) ∧ 0 ≤ gc.toInt + gd.toInt + (-1) * (F 23).toInt + (-1) * (F 29).toInt ∧ 0 ≤ gd.toInt + (-1) * (F 29).toInt ∧ 0 ≤ (-1) * gc.toInt + (F 23).toInt ∧ (gb.toInt = 0 → PI (R 24) (R 25) (R 27) (R 28) zs (F 23).toInt.toNat (F 29).toInt.toNat 1 ∧ low zs (Ra 24) (R 24) ∧ low zs (Ra 25) (R 25)) ∧ (∀ j : Nat, (j : Int) < gd.toInt → 31 ≤ (Ra 27 j).toInt → (j : Int) < (F 29).toInt) ∧ (1 ≤ (F 29).toInt → (p1.toInt ≤ 1 → 31 ≤ (Ra 27 ((F 29).toInt - 1).toNat).toInt) ∧ (p1.toInt ≤ 5 → 25 ≤ (Ra 27 ((F 29).toInt - 1).toNat).toInt)))) args s 0 0 (mz_W ad am)) (F0 m 0 ls []) := by
    intro N_l225
    induction N_l225 with
    | zero => intro v60 v61 H locs F G R S hq0_l225 hq1_l225 hq2_l225 hM hS hIF hIG hIR hFF hGG hRR hg_0 hg_1 hg_2 hPI hbr hm_l225 ls hl; exfalso; omega
    | succ N_l225 ih_l225 =>
      intro v60 v61 H locs F G R S hq0_l225 hq1_l225 hq2_l225 hM hS hIF hIG hIR hFF hGG hRR hg_0 hg_1 hg_2 hPI hbr hm_l225 ls hl
      refine lv_aload_n hx hb dX13_settle_0 rfl (lv_at hl 0 rfl) ?_
      refine mz_getI hx hb htl hown hK hM 29 (Nat.le_of_ble_eq_true rfl) rfl (htl _ mw_718) (fun _ h9 => h9) dX13_settle_1 (fun v9 e9 => ?_)
      refine fx_ti (v := v61) (e9.symm.trans hg_1) ?_
      refine lv_if_le (tgt := 101) hx hb dX13_settle_4 (by decide) (fun c9 => ?_) (fun c9 => ?_)
      · have hc226 : v61.toInt ≤ 0 := (fi_le rfl (show (0 : Int32).toInt = 0 by decide)).mp c9
        exact mz_vret hx hb hr hlocks ⟨hIF, hIG, hIR, hFF, hRR, hGG, (by rw [hg_0, hg_1]; omega), (by rw [hg_1]; omega), (by rw [hg_0]; omega), (fun h9 => ⟨(hPI h9).1.to rfl rfl (hRR 27 (by decide)) (hRR 28 (by decide)) (by rw [hg_0]) (by rw [hg_1]), (hPI h9).2⟩), (by rw [hg_1]; exact hbr), (by rw [hg_1]; exact fun h9 => absurd h9 (by omega))⟩ hM hS dX13_settle_101
      · have hc226 : ¬ (v61.toInt ≤ 0) := fun h9 => c9 ((fi_le rfl (show (0 : Int32).toInt = 0 by decide)).mpr h9)
        refine lv_aload_n hx hb dX13_settle_7 rfl (lv_at hl 0 rfl) ?_
        refine mz_getR hx hb htl hown hK hM 27 (Nat.le_of_ble_eq_true rfl) (Nat.le_of_ble_eq_true rfl) (htl _ mw_200) (fun _ h9 => h9) dX13_settle_8 ?_
        refine lv_aload_n hx hb dX13_settle_11 rfl (lv_at hl 0 rfl) ?_
        refine mz_getI hx hb htl hown hK hM 29 (Nat.le_of_ble_eq_true rfl) rfl (htl _ mw_718) (fun _ h9 => h9) dX13_settle_12 (fun v9 e9 => ?_)
        refine fx_ti (v := v61) (e9.symm.trans hg_1) ?_
        refine lv_iconst (v := 1) hx hb dX13_settle_15 (by decide) ?_
        refine lv_isub hx hb dX13_settle_16 ?_
        refine tk_sub rfl (show (1 : Int32).toInt = 1 by decide) (by omega) (by omega) (fun v227 h_v227 => ?_)
        refine mz_iald hx hb hK hM 27 (Nat.le_of_ble_eq_true rfl) rfl (nn := 400) rfl rfl (by omega) (by omega) dX13_settle_17 (fun v228 e_v228 => ?_)
        have hq_v228 := tk_rng v228
        refine mz_Sj (As := [.int v228]) (rest := []) ⟨hx, hb, hml, hown, hts⟩ hK hM hS (k_X13_binds l D cy ld ad am hD _ _ _ _ v228) ⟨callB_of 1 hts (wl_in mw_769) rfl rfl rfl (htl _ mw_5) (htl _ mw_767) hd_yX13_binds ⟨(Nat.le_of_ble_eq_true rfl), (Nat.le_of_ble_eq_true rfl)⟩, htl _ mw_768⟩ rfl hl.1 rfl (Nat.le_of_ble_eq_true rfl) dX13_settle_18 ⟨(Nat.le_of_ble_eq_true rfl), (Nat.le_of_ble_eq_true rfl)⟩ (fun v229 H locs hpo hM hS => ?_)
        obtain ⟨hpo230, hpo231, hpo232, hpo233, hpo234, hpo235⟩ := hpo
        have hq_v229 := tk_rng v229
        refine lv_iload_n hx hb dX13_settle_21 rfl (lv_at hl 1 rfl) ?_
        refine lv_icmp_lt (tgt := 101) hx hb dX13_settle_22 (by decide) (fun c9 => ?_) (fun c9 => ?_)
        · have hc237 : v229.toInt < p1.toInt := (fi_lt rfl rfl).mp c9
          exact mz_vret hx hb hr hlocks ⟨hIF, hIG, hIR, hFF, hRR, hGG, (by rw [hg_0, hg_1]; omega), (by rw [hg_1]; omega), (by rw [hg_0]; omega), (fun h9 => ⟨(hPI h9).1.to rfl rfl (hRR 27 (by decide)) (hRR 28 (by decide)) (by rw [hg_0]) (by rw [hg_1]), (hPI h9).2⟩), (by rw [hg_1]; exact hbr), (by rw [hg_1, (show Ra 27 (v61.toInt - 1).toNat = v228 by rw [show (v61.toInt - 1).toNat = (v227 : Int32).toNatClampNeg by show _ = v227.toInt.toNat; omega]; exact (congrFun (hRR 27 (by decide)) _).symm.trans e_v228)]; omega)⟩ hM hS dX13_settle_101
        · have hc237 : ¬ (v229.toInt < p1.toInt) := fun h9 => c9 ((fi_lt rfl rfl).mpr h9)
          have hwk_238 : v228.toInt ≤ 30 := by omega
          refine lv_aload_n hx hb dX13_settle_25 rfl (lv_at hl 0 rfl) ?_
          refine lv_dup hx hb dX13_settle_26 rfl ?_
          refine mz_getI hx hb htl hown hK hM 29 (Nat.le_of_ble_eq_true rfl) rfl (htl _ mw_718) (fun _ h9 => h9) dX13_settle_27 (fun v9 e9 => ?_)
          refine fx_ti (v := v61) (e9.symm.trans hg_1) ?_
          refine lv_iconst (v := 1) hx hb dX13_settle_30 (by decide) ?_
          refine lv_isub hx hb dX13_settle_31 ?_
          refine tk_sub rfl (show (1 : Int32).toInt = 1 by decide) (by omega) (by omega) (fun v239 h_v239 => ?_)
          refine mz_putI (ty := .int) (x := v239) hx hb htl hown hK hD hM hS 29 (Nat.le_of_ble_eq_true rfl) rfl (htl _ mw_718) (fun _ h9 => h9) rfl (tyX13_ok 29 (by decide)) rfl rfl dX13_settle_32 (fun H locs F hM hS hf9 hj9 => ?_)
          have hIF := hIF.put hf9 hj9 (show 0 ≤ (v239 : Int32).toInt by omega) (show (v239 : Int32).toInt ≤ 400 by omega) (by decide)
          have hFF := mz_frp (K := [23, 29]) (Fa := Fa) hj9 hFF (by decide)
          have hg_0 := (hj9 23 (by decide)).trans hg_0
          have hg_2 := (hj9 19 (by decide)).trans hg_2
          have hf241 := hf9
          refine lv_aload_n hx hb dX13_settle_35 rfl (lv_at hl 0 rfl) ?_
          refine mz_getR hx hb htl hown hK hM 27 (Nat.le_of_ble_eq_true rfl) (Nat.le_of_ble_eq_true rfl) (htl _ mw_200) (fun _ h9 => h9) dX13_settle_36 ?_
          refine lv_aload_n hx hb dX13_settle_39 rfl (lv_at hl 0 rfl) ?_
          refine mz_getI hx hb htl hown hK hM 29 (Nat.le_of_ble_eq_true rfl) rfl (htl _ mw_718) (fun _ h9 => h9) dX13_settle_40 (fun v9 e9 => ?_)
          refine fx_ti (v := v239) (e9.symm.trans hf241) ?_
          refine mz_iald hx hb hK hM 27 (Nat.le_of_ble_eq_true rfl) rfl (nn := 400) rfl rfl (by omega) (by omega) dX13_settle_43 (fun v9 e9 => ?_)
          have e_v228_v239 : R 27 (v239 : Int32).toNatClampNeg = v228 := by rw [(fi_eq rfl rfl).mpr (show v239.toInt = v227.toInt by omega)]; exact e_v228
          refine fx_ti (v := v228) (e9.symm.trans e_v228_v239) ?_
          refine lv_bipush (v := 29) hx hb dX13_settle_44 (by decide) ?_
          refine lv_icmp_eq (tgt := 63) hx hb dX13_settle_46 (by decide) (fun c9 => ?_) (fun c9 => ?_)
          · have hc242 : v228.toInt = 29 := (fi_eq rfl (show (29 : Int32).toInt = 29 by decide)).mp c9
            refine lv_aload_n hx hb dX13_settle_63 rfl (lv_at hl 0 rfl) ?_
            refine mz_getR hx hb htl hown hK hM 25 (Nat.le_of_ble_eq_true rfl) (Nat.le_of_ble_eq_true rfl) (htl _ mw_199) (fun _ h9 => h9) dX13_settle_64 ?_
            refine lv_aload_n hx hb dX13_settle_67 rfl (lv_at hl 0 rfl) ?_
            refine mz_getR hx hb htl hown hK hM 28 (Nat.le_of_ble_eq_true rfl) (Nat.le_of_ble_eq_true rfl) (htl _ mw_201) (fun _ h9 => h9) dX13_settle_68 ?_
            refine lv_aload_n hx hb dX13_settle_71 rfl (lv_at hl 0 rfl) ?_
            refine mz_getI hx hb htl hown hK hM 29 (Nat.le_of_ble_eq_true rfl) rfl (htl _ mw_718) (fun _ h9 => h9) dX13_settle_72 (fun v9 e9 => ?_)
            refine fx_ti (v := v239) (e9.symm.trans hf241) ?_
            refine mz_iald hx hb hK hM 28 (Nat.le_of_ble_eq_true rfl) rfl (nn := 400) rfl rfl (by omega) (by omega) dX13_settle_75 (fun v243 e_v243 => ?_)
            have hq_v243 := tk_rng v243
            have he_v243 : 0 ≤ v243.toInt ∧ v243.toInt ≤ 399 := mz_elg (n := 400) (hIR.at 28) e_v243 rfl (by omega) (by omega)
            refine lv_aload_n hx hb dX13_settle_76 rfl (lv_at hl 0 rfl) ?_
            refine mz_getI hx hb htl hown hK hM 23 (Nat.le_of_ble_eq_true rfl) rfl (htl _ mw_670) (fun _ h9 => h9) dX13_settle_77 (fun v9 e9 => ?_)
            refine fx_ti (v := v60) (e9.symm.trans hg_0) ?_
            refine mz_iast (x := v60) hx hb hK hD hM hS 25 (Nat.le_of_ble_eq_true rfl) rfl (nn := 400) rfl rfl (by omega) (by omega) dX13_settle_80 (fun H locs R hM hS hw9 hj9 => ?_)
            have hIR := hIR.put hw9 hj9 trivial
            have q1 : Ra 27 v239.toInt.toNat = v228 := (congrFun (hRR 27 (by decide)) _).symm.trans e_v228_v239
            have q2 : Ra 28 v239.toInt.toNat = v243 := (congrFun (hRR 28 (by decide)) _).symm.trans e_v243
            have hbr : ∀ j : Nat, (j : Int) < gd.toInt → 31 ≤ (Ra 27 j).toInt → (j : Int) < v239.toInt := fun j h1 h2 => by have h3 := hbr j h1 h2; have h4 : j ≠ v239.toInt.toNat := (fun e => by rw [e, q1] at h2; omega); omega
            have hPI : gb.toInt = 0 → PI (R 24) (R 25) (Ra 27) (Ra 28) zs v60.toInt.toNat v239.toInt.toNat 1 ∧ low zs (Ra 24) (R 24) ∧ low zs (Ra 25) (R 25) := fun h9 => by
              obtain ⟨g1, g2, g3⟩ := hPI h9
              have g0 := g1.to (pd1 := v239.toInt.toNat + 1) rfl rfl rfl rfl rfl (by omega)
              obtain ⟨b1, b2, b3⟩ := g0.2.2.1 v239.toInt.toNat (by omega)
              have c0 := b3 (by rw [q1]; omega) (by rw [q1]; omega)
              rw [q2] at c0
              refine ⟨(PI.popao (x := v60) g0 (by rw [q1]; omega) (by rw [q1]; omega) (by rw [hw9, q2]; rfl) (by omega)).to (hj9 24 (by decide)) rfl rfl rfl rfl rfl, g2.to (hj9 24 (by decide)), ?_⟩
              rw [hw9]
              exact g3.upd (show zs ≤ v243.toInt.toNat from by omega)
            have hRR := mz_frp (K := [24, 25]) (Fa := Ra) hj9 hRR (by decide)
            have e_v228 : R 27 (v227 : Int32).toNatClampNeg = _ := (congrFun (hj9 27 (by decide)) _).trans e_v228
            have e_v228_v239 : R 27 (v239 : Int32).toNatClampNeg = _ := (congrFun (hj9 27 (by decide)) _).trans e_v228_v239
            have e_v243 : R 28 (v239 : Int32).toNatClampNeg = _ := (congrFun (hj9 28 (by decide)) _).trans e_v243
            refine lv_goto (tgt := 0) hx hb dX13_settle_81 (by decide) ?_
            exact ih_l225 v60 v239 _ _ _ _ _ _ (by omega) (by omega) (by omega) hM hS hIF hIG hIR hFF hGG hRR hg_0 hf241 hg_2 hPI hbr (by omega) _ (lv_sub hl [0, 1] rfl)
          · have hc242 : ¬ (v228.toInt = 29) := fun h9 => c9 ((fi_eq rfl (show (29 : Int32).toInt = 29 by decide)).mpr h9)
            refine lv_aload_n hx hb dX13_settle_49 rfl (lv_at hl 0 rfl) ?_
            refine mz_getR hx hb htl hown hK hM 27 (Nat.le_of_ble_eq_true rfl) (Nat.le_of_ble_eq_true rfl) (htl _ mw_200) (fun _ h9 => h9) dX13_settle_50 ?_
            refine lv_aload_n hx hb dX13_settle_53 rfl (lv_at hl 0 rfl) ?_
            refine mz_getI hx hb htl hown hK hM 29 (Nat.le_of_ble_eq_true rfl) rfl (htl _ mw_718) (fun _ h9 => h9) dX13_settle_54 (fun v9 e9 => ?_)
            refine fx_ti (v := v239) (e9.symm.trans hf241) ?_
            refine mz_iald hx hb hK hM 27 (Nat.le_of_ble_eq_true rfl) rfl (nn := 400) rfl rfl (by omega) (by omega) dX13_settle_57 (fun v9 e9 => ?_)
            refine fx_ti (v := v228) (e9.symm.trans e_v228_v239) ?_
            refine lv_bipush (v := 30) hx hb dX13_settle_58 (by decide) ?_
            refine lv_icmp_ne (tgt := 84) hx hb dX13_settle_60 (by decide) (fun c9 => ?_) (fun c9 => ?_)
            · have hc245 : ¬ (v228.toInt = 30) := fun h9 => c9 ((fi_eq rfl (show (30 : Int32).toInt = 30 by decide)).mpr h9)
              refine lv_aload_n hx hb dX13_settle_84 rfl (lv_at hl 0 rfl) ?_
              refine lv_aload_n hx hb dX13_settle_85 rfl (lv_at hl 0 rfl) ?_
              refine mz_getR hx hb htl hown hK hM 27 (Nat.le_of_ble_eq_true rfl) (Nat.le_of_ble_eq_true rfl) (htl _ mw_200) (fun _ h9 => h9) dX13_settle_86 ?_
              refine lv_aload_n hx hb dX13_settle_89 rfl (lv_at hl 0 rfl) ?_
              refine mz_getI hx hb htl hown hK hM 29 (Nat.le_of_ble_eq_true rfl) rfl (htl _ mw_718) (fun _ h9 => h9) dX13_settle_90 (fun v9 e9 => ?_)
              refine fx_ti (v := v239) (e9.symm.trans hf241) ?_
              refine mz_iald hx hb hK hM 27 (Nat.le_of_ble_eq_true rfl) rfl (nn := 400) rfl rfl (by omega) (by omega) dX13_settle_93 (fun v9 e9 => ?_)
              refine fx_ti (v := v228) (e9.symm.trans e_v228_v239) ?_
              refine lv_iconst (v := 0) hx hb dX13_settle_94 (by decide) ?_
              have hk_0 : (0 : Int32).toInt = 0 := by decide
              refine mz_Vv (As := [.int v228, .int 0]) (rest := []) ⟨hx, hb, hml, hown, hts⟩ hK hM hS (k_X13_emit l D cy ld ad am hD _ _ _ _ v228 0 v60 hIF hIG hIR hg_0 (by omega)) ⟨callB_of 2 hts (wl_in mw_758) rfl rfl rfl (htl _ mw_5) (htl _ mw_755) hd_yX13_emit ⟨(Nat.le_of_ble_eq_true rfl), (Nat.le_of_ble_eq_true rfl)⟩, htl _ mw_756, htl _ mw_757⟩ rfl hl.1 rfl (Nat.le_of_ble_eq_true rfl) dX13_settle_95 ⟨(Nat.le_of_ble_eq_true rfl), (Nat.le_of_ble_eq_true rfl)⟩ (fun H locs F G R S hpo hM hS => ?_)
              obtain ⟨hIF, hIG, hIR, hfr9, hrr9, hgr9, hpo246, hx247, hx248⟩ := hpo
              have hFF := mz_fr (K := [23, 29]) (Fa := Fa) hfr9 hFF (by decide)
              have hRR := mz_fr (K := [24, 25]) (Fa := Ra) hrr9 hRR (by decide)
              have hGG := mz_fr (K := []) (Fa := Ga) hgr9 hGG (by decide)
              have e_v228 : R 27 (v227 : Int32).toNatClampNeg = _ := (congrFun (hrr9 27 (by decide)) _).trans e_v228
              have e_v228_v239 : R 27 (v239 : Int32).toNatClampNeg = _ := (congrFun (hrr9 27 (by decide)) _).trans e_v228_v239
              have hg_2 := (hfr9 19 (by decide)).trans hg_2
              have hf241 := (hfr9 29 (by decide)).trans hf241
              obtain ⟨v251, hf250⟩ : ∃ z : Int32, F 23 = z := ⟨_, rfl⟩
              have hq_v251 := tk_rng v251
              rw [hf250] at hpo246
              have hr_v251 : 0 ≤ v251.toInt ∧ v251.toInt ≤ 400 := hIF.at hf250
              have q1 : Ra 27 v239.toInt.toNat = v228 := (congrFun (hRR 27 (by decide)) _).symm.trans e_v228_v239
              have hbr : ∀ j : Nat, (j : Int) < gd.toInt → 31 ≤ (Ra 27 j).toInt → (j : Int) < v239.toInt := fun j h1 h2 => by have h3 := hbr j h1 h2; have h4 : j ≠ v239.toInt.toNat := (fun e => by rw [e, q1] at h2; omega); omega
              have hPI : gb.toInt = 0 → PI (R 24) (R 25) (Ra 27) (Ra 28) zs v251.toInt.toNat v239.toInt.toNat 1 ∧ low zs (Ra 24) (R 24) ∧ low zs (Ra 25) (R 25) := fun h9 => by
                obtain ⟨g1, g2, g3⟩ := hPI h9
                have g0 := g1.to (pd1 := v239.toInt.toNat + 1) rfl rfl rfl rfl rfl (by omega)
                have c0 := g1.1
                refine ⟨(PI.popop g0 (by rw [q1]; omega) (by rw [q1]; exact hx247) hx248).to rfl rfl rfl rfl (by omega) rfl, ?_, ?_⟩
                · rw [hx247]
                  exact g2.upd c0
                · rw [hx248]
                  exact g3.upd c0
              refine lv_goto (tgt := 0) hx hb dX13_settle_98 (by decide) ?_
              exact ih_l225 v251 v239 _ _ _ _ _ _ (by omega) (by omega) (by omega) hM hS hIF hIG hIR hFF hGG hRR hf250 hf241 hg_2 hPI hbr (by omega) _ (lv_sub hl [0, 1] rfl)
            · have hc245 : v228.toInt = 30 := (fi_eq rfl (show (30 : Int32).toInt = 30 by decide)).mp c9
              refine lv_aload_n hx hb dX13_settle_63 rfl (lv_at hl 0 rfl) ?_
              refine mz_getR hx hb htl hown hK hM 25 (Nat.le_of_ble_eq_true rfl) (Nat.le_of_ble_eq_true rfl) (htl _ mw_199) (fun _ h9 => h9) dX13_settle_64 ?_
              refine lv_aload_n hx hb dX13_settle_67 rfl (lv_at hl 0 rfl) ?_
              refine mz_getR hx hb htl hown hK hM 28 (Nat.le_of_ble_eq_true rfl) (Nat.le_of_ble_eq_true rfl) (htl _ mw_201) (fun _ h9 => h9) dX13_settle_68 ?_
              refine lv_aload_n hx hb dX13_settle_71 rfl (lv_at hl 0 rfl) ?_
              refine mz_getI hx hb htl hown hK hM 29 (Nat.le_of_ble_eq_true rfl) rfl (htl _ mw_718) (fun _ h9 => h9) dX13_settle_72 (fun v9 e9 => ?_)
              refine fx_ti (v := v239) (e9.symm.trans hf241) ?_
              refine mz_iald hx hb hK hM 28 (Nat.le_of_ble_eq_true rfl) rfl (nn := 400) rfl rfl (by omega) (by omega) dX13_settle_75 (fun v252 e_v252 => ?_)
              have hq_v252 := tk_rng v252
              have he_v252 : 0 ≤ v252.toInt ∧ v252.toInt ≤ 399 := mz_elg (n := 400) (hIR.at 28) e_v252 rfl (by omega) (by omega)
              refine lv_aload_n hx hb dX13_settle_76 rfl (lv_at hl 0 rfl) ?_
              refine mz_getI hx hb htl hown hK hM 23 (Nat.le_of_ble_eq_true rfl) rfl (htl _ mw_670) (fun _ h9 => h9) dX13_settle_77 (fun v9 e9 => ?_)
              refine fx_ti (v := v60) (e9.symm.trans hg_0) ?_
              refine mz_iast (x := v60) hx hb hK hD hM hS 25 (Nat.le_of_ble_eq_true rfl) rfl (nn := 400) rfl rfl (by omega) (by omega) dX13_settle_80 (fun H locs R hM hS hw9 hj9 => ?_)
              have hIR := hIR.put hw9 hj9 trivial
              have q1 : Ra 27 v239.toInt.toNat = v228 := (congrFun (hRR 27 (by decide)) _).symm.trans e_v228_v239
              have q2 : Ra 28 v239.toInt.toNat = v252 := (congrFun (hRR 28 (by decide)) _).symm.trans e_v252
              have hbr : ∀ j : Nat, (j : Int) < gd.toInt → 31 ≤ (Ra 27 j).toInt → (j : Int) < v239.toInt := fun j h1 h2 => by have h3 := hbr j h1 h2; have h4 : j ≠ v239.toInt.toNat := (fun e => by rw [e, q1] at h2; omega); omega
              have hPI : gb.toInt = 0 → PI (R 24) (R 25) (Ra 27) (Ra 28) zs v60.toInt.toNat v239.toInt.toNat 1 ∧ low zs (Ra 24) (R 24) ∧ low zs (Ra 25) (R 25) := fun h9 => by
                obtain ⟨g1, g2, g3⟩ := hPI h9
                have g0 := g1.to (pd1 := v239.toInt.toNat + 1) rfl rfl rfl rfl rfl (by omega)
                obtain ⟨b1, b2, b3⟩ := g0.2.2.1 v239.toInt.toNat (by omega)
                have c0 := b3 (by rw [q1]; omega) (by rw [q1]; omega)
                rw [q2] at c0
                refine ⟨(PI.popao (x := v60) g0 (by rw [q1]; omega) (by rw [q1]; omega) (by rw [hw9, q2]; rfl) (by omega)).to (hj9 24 (by decide)) rfl rfl rfl rfl rfl, g2.to (hj9 24 (by decide)), ?_⟩
                rw [hw9]
                exact g3.upd (show zs ≤ v252.toInt.toNat from by omega)
              have hRR := mz_frp (K := [24, 25]) (Fa := Ra) hj9 hRR (by decide)
              have e_v228 : R 27 (v227 : Int32).toNatClampNeg = _ := (congrFun (hj9 27 (by decide)) _).trans e_v228
              have e_v228_v239 : R 27 (v239 : Int32).toNatClampNeg = _ := (congrFun (hj9 27 (by decide)) _).trans e_v228_v239
              have e_v252 : R 28 (v239 : Int32).toNatClampNeg = _ := (congrFun (hj9 28 (by decide)) _).trans e_v252
              refine lv_goto (tgt := 0) hx hb dX13_settle_81 (by decide) ?_
              exact ih_l225 v60 v239 _ _ _ _ _ _ (by omega) (by omega) (by omega) hM hS hIF hIG hIR hFF hGG hRR hg_0 hf241 hg_2 hPI hbr (by omega) _ (lv_sub hl [0, 1] rfl)
  exact hl225 401 gc gd _ _ _ _ _ _ (by omega) (by omega) (by omega) hM hS hIF hIG hIR (fun _ _ => rfl) (fun _ _ => rfl) (fun _ _ => rfl) hg_0 hg_1 hg_2 (fun h9 => ⟨hx_0 h9, low.refl _ _, low.refl _ _⟩) (fun j h1 _ => h1) (by omega) _ (lv_sub hl [0, 1] rfl)
end
section
theorem dX13_inner_0 : decode cX13_inner 0 = .ok (.iconst (-1), 1) := by decide +kernel
theorem dX13_inner_1 : decode cX13_inner 1 = .ok (.istore_n 1, 1) := by decide +kernel
theorem dX13_inner_2 : decode cX13_inner 2 = .ok (.iconst 0, 1) := by decide +kernel
theorem dX13_inner_3 : decode cX13_inner 3 = .ok (.istore_n 2, 1) := by decide +kernel
theorem dX13_inner_4 : decode cX13_inner 4 = .ok (.iload_n 2, 1) := by decide +kernel
theorem dX13_inner_5 : decode cX13_inner 5 = .ok (.aload_n 0, 1) := by decide +kernel
theorem dX13_inner_6 : decode cX13_inner 6 = .ok (.getfield 278, 3) := by decide +kernel
theorem dX13_inner_9 : decode cX13_inner 9 = .ok (.if_icmp .ge 31, 3) := by decide +kernel
theorem dX13_inner_40 : decode cX13_inner 40 = .ok (.iload_n 1, 1) := by decide +kernel
theorem dX13_inner_41 : decode cX13_inner 41 = .ok (.ireturn, 1) := by decide +kernel
theorem dX13_inner_12 : decode cX13_inner 12 = .ok (.aload_n 0, 1) := by decide +kernel
theorem dX13_inner_13 : decode cX13_inner 13 = .ok (.getfield 51, 3) := by decide +kernel
theorem dX13_inner_16 : decode cX13_inner 16 = .ok (.iload_n 2, 1) := by decide +kernel
theorem dX13_inner_17 : decode cX13_inner 17 = .ok (.iaload, 1) := by decide +kernel
theorem dX13_inner_18 : decode cX13_inner 18 = .ok (.bipush 31, 2) := by decide +kernel
theorem dX13_inner_20 : decode cX13_inner 20 = .ok (.if_icmp .lt 12, 3) := by decide +kernel
theorem dX13_inner_32 : decode cX13_inner 32 = .ok (.iload_n 1, 1) := by decide +kernel
theorem dX13_inner_33 : decode cX13_inner 33 = .ok (.istore_n 1, 1) := by decide +kernel
theorem dX13_inner_34 : decode cX13_inner 34 = .ok (.iinc 2 1, 3) := by decide +kernel
theorem dX13_inner_37 : decode cX13_inner 37 = .ok (.goto (-33), 3) := by decide +kernel
theorem dX13_inner_23 : decode cX13_inner 23 = .ok (.aload_n 0, 1) := by decide +kernel
theorem dX13_inner_24 : decode cX13_inner 24 = .ok (.getfield 51, 3) := by decide +kernel
theorem dX13_inner_27 : decode cX13_inner 27 = .ok (.iload_n 2, 1) := by decide +kernel
theorem dX13_inner_28 : decode cX13_inner 28 = .ok (.iaload, 1) := by decide +kernel
theorem dX13_inner_29 : decode cX13_inner 29 = .ok (.goto 4, 3) := by decide +kernel
set_option maxHeartbeats 4000000 in
set_option maxRecDepth 100000 in
theorem k_X13_inner (l : Launch) (D : va_G) (cy : Nat → ClassId) (ld ad : Nat → Nat) (am : Nat) (hD : mz_D ad am) (Fa : Nat → Int32) (Ga : Nat → Int64) (Ra : Nat → Nat → Int32) (Sa : Nat → Nat → Int64) (gd : Int32) (hIF : mz_IF false Fa) (hIG : mz_IG Ga) (hIR : mz_IR [] true Ra) (hg_0 : Fa 29 = gd) : Met l yX13_inner (wl yX13_inner cX13_inner 3 (some .int)) ({ frames := 3, cells := 0, slots := 0, locals := 140 }) (mz_p D cy ld ad am Fa Ga Ra Sa [.ref am]) (mz_j D cy ad am Fa Ga Ra Sa (fun r => inn (Ra 27) gd.toInt.toNat r.toInt)) 0 0 (mz_W ad am) := by
  refine mz_met (y := yX13_inner) (cc := cX13_inner) (maxL := 3) (ret := (some .int)) (av := [.ref am]) _ (by decide) (Nat.le_of_ble_eq_true rfl) ?_
  intro p e s m args below meth c hx hb hr hml hts htl hown hlocks hK H locs hM hS ls hl
  have hown : s.vm.findClass RX13 = some m.cls := hown
  have hl : lv_has ls 3 [(0, .ref am)] := hl
  have hq_gd := tk_rng gd
  have hr_gd : 0 ≤ gd.toInt ∧ gd.toInt ≤ 400 := hIF.at hg_0
  refine lv_iconst (v := (-1)) hx hb dX13_inner_0 (by decide) ?_
  refine lv_istore_n (lv' := [(1, .int (-1)), (0, .ref am)]) hx hb dX13_inner_1 rfl hl (by decide) rfl (fun ls hl => ?_)
  refine lv_iconst (v := 0) hx hb dX13_inner_2 (by decide) ?_
  refine lv_istore_n (lv' := [(2, .int 0), (1, .int (-1)), (0, .ref am)]) hx hb dX13_inner_3 rfl hl (by decide) rfl (fun ls hl => ?_)
  have hl102 : ∀ (N_l102 : Nat) (v28 : Int32) (v29 : Int32), (0 ≤ v28.toInt) → ((-1) ≤ v29.toInt) → (0 ≤ gd.toInt + (-1) * v28.toInt) → (inn (Ra 27) v28.toInt.toNat v29.toInt) → ((-1) * v28.toInt + 400 < (N_l102 : Int)) → ∀ ls : Array Slot, lv_has ls 3 [(2, .int v28), (1, .int v29), (0, .ref am)] → W p l e ({ frames := 3, cells := 0, slots := 0, locals := 140 }) s m args below meth c H locs 0 0 (MQ below (mz_j D cy ad am Fa Ga Ra Sa (fun r => inn (Ra 27) gd.toInt.toNat r.toInt)) args s 0 0 (mz_W ad am)) (F0 m 4 ls []) := by
    intro N_l102
    induction N_l102 with
    | zero => intro v28 v29 hq0_l102 hq1_l102 hq2_l102 hinn hm_l102 ls hl; exfalso; omega
    | succ N_l102 ih_l102 =>
      intro v28 v29 hq0_l102 hq1_l102 hq2_l102 hinn hm_l102 ls hl
      refine lv_iload_n hx hb dX13_inner_4 rfl (lv_at hl 0 rfl) ?_
      refine lv_aload_n hx hb dX13_inner_5 rfl (lv_at hl 2 rfl) ?_
      refine mz_getI hx hb htl hown hK hM 29 (Nat.le_of_ble_eq_true rfl) rfl (htl _ mw_718) (fun _ h9 => h9) dX13_inner_6 (fun v9 e9 => ?_)
      refine fx_ti (v := gd) (e9.symm.trans hg_0) ?_
      refine lv_icmp_ge (tgt := 40) hx hb dX13_inner_9 (by decide) (fun c9 => ?_) (fun c9 => ?_)
      · have hc103 : gd.toInt ≤ v28.toInt := (fi_le rfl rfl).mp c9
        refine lv_iload_n hx hb dX13_inner_40 rfl (lv_at hl 1 rfl) ?_
        exact mz_jret (v := v29) hx hb hr rfl hlocks (by rw [show gd.toInt.toNat = v28.toInt.toNat by omega]; exact hinn) hM hS dX13_inner_41
      · have hc103 : ¬ (gd.toInt ≤ v28.toInt) := fun h9 => c9 ((fi_le rfl rfl).mpr h9)
        refine lv_aload_n hx hb dX13_inner_12 rfl (lv_at hl 2 rfl) ?_
        refine mz_getR hx hb htl hown hK hM 27 (Nat.le_of_ble_eq_true rfl) (Nat.le_of_ble_eq_true rfl) (htl _ mw_200) (fun _ h9 => h9) dX13_inner_13 ?_
        refine lv_iload_n hx hb dX13_inner_16 rfl (lv_at hl 0 rfl) ?_
        refine mz_iald hx hb hK hM 27 (Nat.le_of_ble_eq_true rfl) rfl (nn := 400) rfl rfl (by omega) (by omega) dX13_inner_17 (fun v108 e_v108 => ?_)
        have hq_v108 := tk_rng v108
        refine lv_bipush (v := 31) hx hb dX13_inner_18 (by decide) ?_
        refine lv_icmp_lt (tgt := 32) hx hb dX13_inner_20 (by decide) (fun c9 => ?_) (fun c9 => ?_)
        · have hc109 : v108.toInt < 31 := (fi_lt rfl (show (31 : Int32).toInt = 31 by decide)).mp c9
          refine lv_iload_n hx hb dX13_inner_32 rfl (lv_at hl 1 rfl) ?_
          refine lv_istore_n (lv' := [(1, .int v29), (2, .int v28), (0, .ref am)]) hx hb dX13_inner_33 rfl hl (by decide) rfl (fun ls hl => ?_)
          obtain ⟨v110, h_v110, e_v110⟩ := tk_inc v28 1 (by decide) (by omega) (by omega)
          refine lv_iinc (v := v110) (lv' := [(2, .int v110), (1, .int v29), (0, .ref am)]) hx hb dX13_inner_34 hl (k := 1) rfl e_v110 (by decide) rfl (fun ls hl => ?_)
          refine lv_goto (tgt := 4) hx hb dX13_inner_37 (by decide) ?_
          exact ih_l102 v110 v29 (by omega) (by omega) (by omega) (by rw [show v110.toInt.toNat = v28.toInt.toNat + 1 by omega]; exact inn.old hinn (by rw [show Ra 27 v28.toInt.toNat = v108 from e_v108]; omega)) (by omega) _ (lv_sub hl [0, 1, 2] rfl)
        · have hc109 : ¬ (v108.toInt < 31) := fun h9 => c9 ((fi_lt rfl (show (31 : Int32).toInt = 31 by decide)).mpr h9)
          refine lv_aload_n hx hb dX13_inner_23 rfl (lv_at hl 2 rfl) ?_
          refine mz_getR hx hb htl hown hK hM 27 (Nat.le_of_ble_eq_true rfl) (Nat.le_of_ble_eq_true rfl) (htl _ mw_200) (fun _ h9 => h9) dX13_inner_24 ?_
          refine lv_iload_n hx hb dX13_inner_27 rfl (lv_at hl 0 rfl) ?_
          refine mz_iald hx hb hK hM 27 (Nat.le_of_ble_eq_true rfl) rfl (nn := 400) rfl rfl (by omega) (by omega) dX13_inner_28 (fun v9 e9 => ?_)
          refine fx_ti (v := v108) (e9.symm.trans e_v108) ?_
          refine lv_goto (tgt := 33) hx hb dX13_inner_29 (by decide) ?_
          refine lv_istore_n (lv' := [(1, .int v108), (2, .int v28), (0, .ref am)]) hx hb dX13_inner_33 rfl hl (by decide) rfl (fun ls hl => ?_)
          obtain ⟨v111, h_v111, e_v111⟩ := tk_inc v28 1 (by decide) (by omega) (by omega)
          refine lv_iinc (v := v111) (lv' := [(2, .int v111), (1, .int v108), (0, .ref am)]) hx hb dX13_inner_34 hl (k := 1) rfl e_v111 (by decide) rfl (fun ls hl => ?_)
          refine lv_goto (tgt := 4) hx hb dX13_inner_37 (by decide) ?_
          exact ih_l102 v111 v108 (by omega) (by omega) (by omega) (by rw [show v111.toInt.toNat = v28.toInt.toNat + 1 by omega]; exact inn.new (by rw [show Ra 27 v28.toInt.toNat = v108 from e_v108]; omega) (by rw [show Ra 27 v28.toInt.toNat = v108 from e_v108])) (by omega) _ (lv_sub hl [0, 1, 2] rfl)
  have hk_0 : (0 : Int32).toInt = 0 := by decide
  have hk_m1 : ((-1) : Int32).toInt = (-1) := by decide
  exact hl102 401 0 (-1) (by omega) (by omega) (by omega) (show inn (Ra 27) ((0 : Int32).toInt.toNat) ((-1 : Int32).toInt) from inn.zero _) (by omega) _ (lv_sub hl [0, 1, 2] rfl)
end
section
theorem dX13_isCompared_0 : decode cX13_isCompared 0 = .ok (.aload_n 0, 1) := by decide +kernel
theorem dX13_isCompared_1 : decode cX13_isCompared 1 = .ok (.getfield 278, 3) := by decide +kernel
theorem dX13_isCompared_4 : decode cX13_isCompared 4 = .ok (.iconst 1, 1) := by decide +kernel
theorem dX13_isCompared_5 : decode cX13_isCompared 5 = .ok (.isub, 1) := by decide +kernel
theorem dX13_isCompared_6 : decode cX13_isCompared 6 = .ok (.istore_n 1, 1) := by decide +kernel
theorem dX13_isCompared_7 : decode cX13_isCompared 7 = .ok (.iload_n 1, 1) := by decide +kernel
theorem dX13_isCompared_36 : decode cX13_isCompared 36 = .ok (.iload_n 1, 1) := by decide +kernel
theorem dX13_isCompared_37 : decode cX13_isCompared 37 = .ok (.ifCond .lt 26, 3) := by decide +kernel
theorem dX13_isCompared_63 : decode cX13_isCompared 63 = .ok (.iconst 0, 1) := by decide +kernel
theorem dX13_isCompared_64 : decode cX13_isCompared 64 = .ok (.ireturn, 1) := by decide +kernel
theorem dX13_isCompared_40 : decode cX13_isCompared 40 = .ok (.aload_n 0, 1) := by decide +kernel
theorem dX13_isCompared_41 : decode cX13_isCompared 41 = .ok (.getfield 51, 3) := by decide +kernel
theorem dX13_isCompared_44 : decode cX13_isCompared 44 = .ok (.iload_n 1, 1) := by decide +kernel
theorem dX13_isCompared_45 : decode cX13_isCompared 45 = .ok (.iaload, 1) := by decide +kernel
theorem dX13_isCompared_46 : decode cX13_isCompared 46 = .ok (.i2l, 1) := by decide +kernel
theorem dX13_isCompared_47 : decode cX13_isCompared 47 = .ok (.ldc2_w 292, 3) := by decide +kernel
theorem dX13_isCompared_50 : decode cX13_isCompared 50 = .ok (.ldc2_w 294, 3) := by decide +kernel
theorem dX13_isCompared_53 : decode cX13_isCompared 53 = .ok (.invokestatic 190, 3) := by decide +kernel
theorem dX13_isCompared_56 : decode cX13_isCompared 56 = .ok (.ifCond .eq 7, 3) := by decide +kernel
theorem dX13_isCompared_59 : decode cX13_isCompared 59 = .ok (.iconst 1, 1) := by decide +kernel
theorem dX13_isCompared_60 : decode cX13_isCompared 60 = .ok (.goto 4, 3) := by decide +kernel
theorem dX13_isCompared_8 : decode cX13_isCompared 8 = .ok (.ifCond .lt 28, 3) := by decide +kernel
theorem dX13_isCompared_11 : decode cX13_isCompared 11 = .ok (.aload_n 0, 1) := by decide +kernel
theorem dX13_isCompared_12 : decode cX13_isCompared 12 = .ok (.getfield 51, 3) := by decide +kernel
theorem dX13_isCompared_15 : decode cX13_isCompared 15 = .ok (.iload_n 1, 1) := by decide +kernel
theorem dX13_isCompared_16 : decode cX13_isCompared 16 = .ok (.iaload, 1) := by decide +kernel
theorem dX13_isCompared_17 : decode cX13_isCompared 17 = .ok (.i2l, 1) := by decide +kernel
theorem dX13_isCompared_18 : decode cX13_isCompared 18 = .ok (.ldc2_w 288, 3) := by decide +kernel
theorem dX13_isCompared_21 : decode cX13_isCompared 21 = .ok (.ldc2_w 290, 3) := by decide +kernel
theorem dX13_isCompared_24 : decode cX13_isCompared 24 = .ok (.invokestatic 190, 3) := by decide +kernel
theorem dX13_isCompared_27 : decode cX13_isCompared 27 = .ok (.ifCond .eq 9, 3) := by decide +kernel
theorem dX13_isCompared_30 : decode cX13_isCompared 30 = .ok (.iinc 1 (-1), 3) := by decide +kernel
theorem dX13_isCompared_33 : decode cX13_isCompared 33 = .ok (.goto (-26), 3) := by decide +kernel
set_option maxHeartbeats 4000000 in
set_option maxRecDepth 100000 in
theorem k_X13_isCompared (l : Launch) (D : va_G) (cy : Nat → ClassId) (ld ad : Nat → Nat) (am : Nat) (hD : mz_D ad am) (Fa : Nat → Int32) (Ga : Nat → Int64) (Ra : Nat → Nat → Int32) (Sa : Nat → Nat → Int64) (hIF : mz_IF false Fa) (hIG : mz_IG Ga) (hIR : mz_IR [] true Ra) : Met l yX13_isCompared (wl yX13_isCompared cX13_isCompared 2 (some .boolean)) ({ frames := 4, cells := 0, slots := 0, locals := 210 }) (mz_p D cy ld ad am Fa Ga Ra Sa [.ref am]) (mz_j D cy ad am Fa Ga Ra Sa (fun r => 0 ≤ r.toInt ∧ r.toInt ≤ 1 ∧ 0 ≤ r.toInt ∧ r.toInt ≤ 1)) 0 0 (mz_W ad am) := by
  refine mz_met (y := yX13_isCompared) (cc := cX13_isCompared) (maxL := 2) (ret := (some .boolean)) (av := [.ref am]) _ (by decide) (Nat.le_of_ble_eq_true rfl) ?_
  intro p e s m args below meth c hx hb hr hml hts htl hown hlocks hK H locs hM hS ls hl
  have hown : s.vm.findClass RX13 = some m.cls := hown
  have hl : lv_has ls 2 [(0, .ref am)] := hl
  refine lv_aload_n hx hb dX13_isCompared_0 rfl (lv_at hl 0 rfl) ?_
  refine mz_getI hx hb htl hown hK hM 29 (Nat.le_of_ble_eq_true rfl) rfl (htl _ mw_718) (fun _ h9 => h9) dX13_isCompared_1 (fun v2 hf1 => ?_)
  have hq_v2 := tk_rng v2
  have hr_v2 : 0 ≤ v2.toInt ∧ v2.toInt ≤ 400 := hIF.at hf1
  refine lv_iconst (v := 1) hx hb dX13_isCompared_4 (by decide) ?_
  refine lv_isub hx hb dX13_isCompared_5 ?_
  refine tk_sub rfl (show (1 : Int32).toInt = 1 by decide) (by omega) (by omega) (fun v3 h_v3 => ?_)
  refine lv_istore_n (lv' := [(1, .int v3), (0, .ref am)]) hx hb dX13_isCompared_6 rfl hl (by decide) rfl (fun ls hl => ?_)
  have hl291 : ∀ (N_l291 : Nat) (v49 : Int32) (H : Heap) (locs : List Loc), ((-1) ≤ v49.toInt) → (0 ≤ v2.toInt + (-1) * v49.toInt + (-1)) → (mz_S D cy ad am Fa Ga Ra Sa H) → (va_S (mz_W ad am) s.heap H locs) → (v49.toInt + 1 < (N_l291 : Int)) → ∀ ls : Array Slot, lv_has ls 2 [(1, .int v49), (0, .ref am)] → W p l e ({ frames := 4, cells := 0, slots := 0, locals := 210 }) s m args below meth c H locs 0 0 (MQ below (mz_j D cy ad am Fa Ga Ra Sa (fun r => 0 ≤ r.toInt ∧ r.toInt ≤ 1 ∧ 0 ≤ r.toInt ∧ r.toInt ≤ 1)) args s 0 0 (mz_W ad am)) (F0 m 7 ls []) := by
    intro N_l291
    induction N_l291 with
    | zero => intro v49 H locs hq0_l291 hq1_l291 hM hS hm_l291 ls hl; exfalso; omega
    | succ N_l291 ih_l291 =>
      intro v49 H locs hq0_l291 hq1_l291 hM hS hm_l291 ls hl
      refine lv_iload_n hx hb dX13_isCompared_7 rfl (lv_at hl 0 rfl) ?_
      have hj307 : ∀ (H : Heap) (locs : List Loc), (mz_S D cy ad am Fa Ga Ra Sa H) → (va_S (mz_W ad am) s.heap H locs) → ∀ ls : Array Slot, lv_has ls 2 [(1, .int v49), (0, .ref am)] → W p l e ({ frames := 4, cells := 0, slots := 0, locals := 210 }) s m args below meth c H locs 0 0 (MQ below (mz_j D cy ad am Fa Ga Ra Sa (fun r => 0 ≤ r.toInt ∧ r.toInt ≤ 1 ∧ 0 ≤ r.toInt ∧ r.toInt ≤ 1)) args s 0 0 (mz_W ad am)) (F0 m 36 ls []) := by
        intro H locs hM hS ls hl
        refine lv_iload_n hx hb dX13_isCompared_36 rfl (lv_at hl 0 rfl) ?_
        refine lv_if_lt (tgt := 63) hx hb dX13_isCompared_37 (by decide) (fun c9 => ?_) (fun c9 => ?_)
        · have hc308 : v49.toInt < 0 := (fi_lt rfl (show (0 : Int32).toInt = 0 by decide)).mp c9
          refine lv_iconst (v := 0) hx hb dX13_isCompared_63 (by decide) ?_
          have hk_0 : (0 : Int32).toInt = 0 := by decide
          exact mz_jret (v := 0) hx hb hr rfl hlocks ⟨(by omega), (by omega), (by omega), (by omega)⟩ hM hS dX13_isCompared_64
        · have hc308 : ¬ (v49.toInt < 0) := fun h9 => c9 ((fi_lt rfl (show (0 : Int32).toInt = 0 by decide)).mpr h9)
          refine lv_aload_n hx hb dX13_isCompared_40 rfl (lv_at hl 1 rfl) ?_
          refine mz_getR hx hb htl hown hK hM 27 (Nat.le_of_ble_eq_true rfl) (Nat.le_of_ble_eq_true rfl) (htl _ mw_200) (fun _ h9 => h9) dX13_isCompared_41 ?_
          refine lv_iload_n hx hb dX13_isCompared_44 rfl (lv_at hl 0 rfl) ?_
          refine mz_iald hx hb hK hM 27 (Nat.le_of_ble_eq_true rfl) rfl (nn := 400) rfl rfl (by omega) (by omega) dX13_isCompared_45 (fun v309 e_v309 => ?_)
          have hq_v309 := tk_rng v309
          obtain ⟨w310, e_w310, h_w310⟩ : ∃ z : Int64, v309.toInt64 = z ∧ z.toInt = v309.toInt := ⟨_, rfl, fl_w _⟩
          refine lv_i2l (v := w310) hx hb dX13_isCompared_46 e_w310 ?_
          refine lv_ldc2 hx hb hown (htl _ mw_784) dX13_isCompared_47 ?_
          refine lv_ldc2 hx hb hown (htl _ mw_785) dX13_isCompared_50 ?_
          have hk_25 : (25 : Int64).toInt = 25 := by decide
          have hk_27 : (27 : Int64).toInt = 27 := by decide
          refine mz_Sj (As := [.long w310, .long 25, .long 27]) (rest := []) ⟨hx, hb, hml, hown, hts⟩ hK hM hS (k_X13_in l D cy ld ad am hD _ _ _ _ w310 25 27) ⟨callB_of 3 hts (wl_in mw_292) rfl rfl rfl (htl _ mw_5) (htl _ mw_290) hd_yX13_in ⟨(Nat.le_of_ble_eq_true rfl), (Nat.le_of_ble_eq_true rfl)⟩, htl _ mw_291⟩ rfl hl.1 rfl (Nat.le_of_ble_eq_true rfl) dX13_isCompared_53 ⟨(Nat.le_of_ble_eq_true rfl), (Nat.le_of_ble_eq_true rfl)⟩ (fun v311 H locs hpo hM hS => ?_)
          obtain ⟨hpo312, hpo313, hpo314, hpo315, hpo316, hpo317⟩ := hpo
          have hq_v311 := tk_rng v311
          refine lv_if_eq (tgt := 63) hx hb dX13_isCompared_56 (by decide) (fun c9 => ?_) (fun c9 => ?_)
          · have hc319 : v311.toInt = 0 := (fi_eq rfl (show (0 : Int32).toInt = 0 by decide)).mp c9
            refine lv_iconst (v := 0) hx hb dX13_isCompared_63 (by decide) ?_
            have hk_0 : (0 : Int32).toInt = 0 := by decide
            exact mz_jret (v := 0) hx hb hr rfl hlocks ⟨(by omega), (by omega), (by omega), (by omega)⟩ hM hS dX13_isCompared_64
          · have hc319 : ¬ (v311.toInt = 0) := fun h9 => c9 ((fi_eq rfl (show (0 : Int32).toInt = 0 by decide)).mpr h9)
            have hwk_320 : 25 ≤ w310.toInt ∧ w310.toInt ≤ 27 := by omega
            refine lv_iconst (v := 1) hx hb dX13_isCompared_59 (by decide) ?_
            refine lv_goto (tgt := 64) hx hb dX13_isCompared_60 (by decide) ?_
            have hk_1 : (1 : Int32).toInt = 1 := by decide
            exact mz_jret (v := 1) hx hb hr rfl hlocks ⟨(by omega), (by omega), (by omega), (by omega)⟩ hM hS dX13_isCompared_64
      refine lv_if_lt (tgt := 36) hx hb dX13_isCompared_8 (by decide) (fun c9 => ?_) (fun c9 => ?_)
      · have hc292 : v49.toInt < 0 := (fi_lt rfl (show (0 : Int32).toInt = 0 by decide)).mp c9
        exact hj307 _ _ hM hS _ (lv_sub hl [0, 1] rfl)
      · have hc292 : ¬ (v49.toInt < 0) := fun h9 => c9 ((fi_lt rfl (show (0 : Int32).toInt = 0 by decide)).mpr h9)
        refine lv_aload_n hx hb dX13_isCompared_11 rfl (lv_at hl 1 rfl) ?_
        refine mz_getR hx hb htl hown hK hM 27 (Nat.le_of_ble_eq_true rfl) (Nat.le_of_ble_eq_true rfl) (htl _ mw_200) (fun _ h9 => h9) dX13_isCompared_12 ?_
        refine lv_iload_n hx hb dX13_isCompared_15 rfl (lv_at hl 0 rfl) ?_
        refine mz_iald hx hb hK hM 27 (Nat.le_of_ble_eq_true rfl) rfl (nn := 400) rfl rfl (by omega) (by omega) dX13_isCompared_16 (fun v321 e_v321 => ?_)
        have hq_v321 := tk_rng v321
        obtain ⟨w322, e_w322, h_w322⟩ : ∃ z : Int64, v321.toInt64 = z ∧ z.toInt = v321.toInt := ⟨_, rfl, fl_w _⟩
        refine lv_i2l (v := w322) hx hb dX13_isCompared_17 e_w322 ?_
        refine lv_ldc2 hx hb hown (htl _ mw_782) dX13_isCompared_18 ?_
        refine lv_ldc2 hx hb hown (htl _ mw_783) dX13_isCompared_21 ?_
        have hk_20 : (20 : Int64).toInt = 20 := by decide
        have hk_24 : (24 : Int64).toInt = 24 := by decide
        refine mz_Sj (As := [.long w322, .long 20, .long 24]) (rest := []) ⟨hx, hb, hml, hown, hts⟩ hK hM hS (k_X13_in l D cy ld ad am hD _ _ _ _ w322 20 24) ⟨callB_of 3 hts (wl_in mw_292) rfl rfl rfl (htl _ mw_5) (htl _ mw_290) hd_yX13_in ⟨(Nat.le_of_ble_eq_true rfl), (Nat.le_of_ble_eq_true rfl)⟩, htl _ mw_291⟩ rfl hl.1 rfl (Nat.le_of_ble_eq_true rfl) dX13_isCompared_24 ⟨(Nat.le_of_ble_eq_true rfl), (Nat.le_of_ble_eq_true rfl)⟩ (fun v323 H locs hpo hM hS => ?_)
        obtain ⟨hpo324, hpo325, hpo326, hpo327, hpo328, hpo329⟩ := hpo
        have hq_v323 := tk_rng v323
        refine lv_if_eq (tgt := 36) hx hb dX13_isCompared_27 (by decide) (fun c9 => ?_) (fun c9 => ?_)
        · have hc331 : v323.toInt = 0 := (fi_eq rfl (show (0 : Int32).toInt = 0 by decide)).mp c9
          exact hj307 _ _ hM hS _ (lv_sub hl [0, 1] rfl)
        · have hc331 : ¬ (v323.toInt = 0) := fun h9 => c9 ((fi_eq rfl (show (0 : Int32).toInt = 0 by decide)).mpr h9)
          have hwk_333 : 20 ≤ w322.toInt ∧ w322.toInt ≤ 24 := by omega
          obtain ⟨v332, h_v332, e_v332⟩ := tk_inc v49 (-1) (by decide) (by omega) (by omega)
          refine lv_iinc (v := v332) (lv' := [(1, .int v332), (0, .ref am)]) hx hb dX13_isCompared_30 hl (k := 0) rfl e_v332 (by decide) rfl (fun ls hl => ?_)
          refine lv_goto (tgt := 7) hx hb dX13_isCompared_33 (by decide) ?_
          exact ih_l291 v332 _ _ (by omega) (by omega) hM hS (by omega) _ (lv_sub hl [0, 1] rfl)
  exact hl291 401 v3 _ _ (by omega) (by omega) hM hS (by omega) _ (lv_sub hl [0, 1] rfl)
end
