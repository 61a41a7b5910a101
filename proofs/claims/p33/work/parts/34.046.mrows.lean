theorem dX13_binds_0 : decode cX13_binds 0 = .ok (.iload_n 0, 1) := by decide +kernel
theorem dX13_binds_1 : decode cX13_binds 1 = .ok (.bipush 31, 2) := by decide +kernel
theorem dX13_binds_3 : decode cX13_binds 3 = .ok (.if_icmp .lt 7, 3) := by decide +kernel
theorem dX13_binds_10 : decode cX13_binds 10 = .ok (.iload_n 0, 1) := by decide +kernel
theorem dX13_binds_11 : decode cX13_binds 11 = .ok (.bipush 30, 2) := by decide +kernel
theorem dX13_binds_13 : decode cX13_binds 13 = .ok (.if_icmp .ne 7, 3) := by decide +kernel
theorem dX13_binds_20 : decode cX13_binds 20 = .ok (.iload_n 0, 1) := by decide +kernel
theorem dX13_binds_21 : decode cX13_binds 21 = .ok (.bipush 29, 2) := by decide +kernel
theorem dX13_binds_23 : decode cX13_binds 23 = .ok (.if_icmp .ne 7, 3) := by decide +kernel
theorem dX13_binds_30 : decode cX13_binds 30 = .ok (.iload_n 0, 1) := by decide +kernel
theorem dX13_binds_31 : decode cX13_binds 31 = .ok (.bipush 28, 2) := by decide +kernel
theorem dX13_binds_33 : decode cX13_binds 33 = .ok (.if_icmp .ne 7, 3) := by decide +kernel
theorem dX13_binds_40 : decode cX13_binds 40 = .ok (.iload_n 0, 1) := by decide +kernel
theorem dX13_binds_41 : decode cX13_binds 41 = .ok (.bipush 25, 2) := by decide +kernel
theorem dX13_binds_43 : decode cX13_binds 43 = .ok (.if_icmp .lt 7, 3) := by decide +kernel
theorem dX13_binds_50 : decode cX13_binds 50 = .ok (.iload_n 0, 1) := by decide +kernel
theorem dX13_binds_51 : decode cX13_binds 51 = .ok (.bipush 22, 2) := by decide +kernel
theorem dX13_binds_53 : decode cX13_binds 53 = .ok (.if_icmp .lt 8, 3) := by decide +kernel
theorem dX13_binds_61 : decode cX13_binds 61 = .ok (.iconst 5, 1) := by decide +kernel
theorem dX13_binds_62 : decode cX13_binds 62 = .ok (.ireturn, 1) := by decide +kernel
theorem dX13_binds_56 : decode cX13_binds 56 = .ok (.bipush 6, 2) := by decide +kernel
theorem dX13_binds_58 : decode cX13_binds 58 = .ok (.goto 4, 3) := by decide +kernel
theorem dX13_binds_46 : decode cX13_binds 46 = .ok (.iconst 4, 1) := by decide +kernel
theorem dX13_binds_47 : decode cX13_binds 47 = .ok (.goto 15, 3) := by decide +kernel
theorem dX13_binds_36 : decode cX13_binds 36 = .ok (.iconst 3, 1) := by decide +kernel
theorem dX13_binds_37 : decode cX13_binds 37 = .ok (.goto 25, 3) := by decide +kernel
theorem dX13_binds_26 : decode cX13_binds 26 = .ok (.iconst 2, 1) := by decide +kernel
theorem dX13_binds_27 : decode cX13_binds 27 = .ok (.goto 35, 3) := by decide +kernel
theorem dX13_binds_16 : decode cX13_binds 16 = .ok (.iconst 1, 1) := by decide +kernel
theorem dX13_binds_17 : decode cX13_binds 17 = .ok (.goto 45, 3) := by decide +kernel
theorem dX13_binds_6 : decode cX13_binds 6 = .ok (.iconst 0, 1) := by decide +kernel
theorem dX13_binds_7 : decode cX13_binds 7 = .ok (.goto 55, 3) := by decide +kernel
set_option maxHeartbeats 4000000 in
set_option maxRecDepth 100000 in
theorem k_X13_binds (l : Launch) (D : va_G) (cy : Nat → ClassId) (ld ad : Nat → Nat) (am : Nat) (hD : mz_D ad am) (Fa : Nat → Int32) (Ga : Nat → Int64) (Ra : Nat → Nat → Int32) (Sa : Nat → Nat → Int64) (p0 : Int32) : Met l yX13_binds (wl yX13_binds cX13_binds 1 (some .int)) ({ frames := 3, cells := 0, slots := 0, locals := 140 }) (mz_p D cy ld ad am Fa Ga Ra Sa [.int p0]) (mz_j D cy ad am Fa Ga Ra Sa (fun r => (1 ≤ r.toInt → p0.toInt ≤ 30) ∧ (r.toInt ≤ 0 → 31 ≤ p0.toInt) ∧ (r.toInt ≤ 4 → 25 ≤ p0.toInt) ∧ (p0.toInt ≤ 30 → 1 ≤ r.toInt) ∧ 0 ≤ r.toInt ∧ r.toInt ≤ 6)) 0 0 (mz_W ad am) := by
  refine mz_met (y := yX13_binds) (cc := cX13_binds) (maxL := 1) (ret := (some .int)) (av := [.int p0]) _ (by decide) (Nat.le_of_ble_eq_true rfl) ?_
  intro p e s m args below meth c hx hb hr hml hts htl hown hlocks hK H locs hM hS ls hl
  have hown : s.vm.findClass RX13 = some m.cls := hown
  have hl : lv_has ls 1 [(0, .int p0)] := hl
  have hr_p0 := tk_rng p0
  refine lv_iload_n hx hb dX13_binds_0 rfl (lv_at hl 0 rfl) ?_
  refine lv_bipush (v := 31) hx hb dX13_binds_1 (by decide) ?_
  refine lv_icmp_lt (tgt := 10) hx hb dX13_binds_3 (by decide) (fun c9 => ?_) (fun c9 => ?_)
  · have hc1 : p0.toInt < 31 := (fi_lt rfl (show (31 : Int32).toInt = 31 by decide)).mp c9
    refine lv_iload_n hx hb dX13_binds_10 rfl (lv_at hl 0 rfl) ?_
    refine lv_bipush (v := 30) hx hb dX13_binds_11 (by decide) ?_
    refine lv_icmp_ne (tgt := 20) hx hb dX13_binds_13 (by decide) (fun c9 => ?_) (fun c9 => ?_)
    · have hc2 : ¬ (p0.toInt = 30) := fun h9 => c9 ((fi_eq rfl (show (30 : Int32).toInt = 30 by decide)).mpr h9)
      refine lv_iload_n hx hb dX13_binds_20 rfl (lv_at hl 0 rfl) ?_
      refine lv_bipush (v := 29) hx hb dX13_binds_21 (by decide) ?_
      refine lv_icmp_ne (tgt := 30) hx hb dX13_binds_23 (by decide) (fun c9 => ?_) (fun c9 => ?_)
      · have hc3 : ¬ (p0.toInt = 29) := fun h9 => c9 ((fi_eq rfl (show (29 : Int32).toInt = 29 by decide)).mpr h9)
        refine lv_iload_n hx hb dX13_binds_30 rfl (lv_at hl 0 rfl) ?_
        refine lv_bipush (v := 28) hx hb dX13_binds_31 (by decide) ?_
        refine lv_icmp_ne (tgt := 40) hx hb dX13_binds_33 (by decide) (fun c9 => ?_) (fun c9 => ?_)
        · have hc4 : ¬ (p0.toInt = 28) := fun h9 => c9 ((fi_eq rfl (show (28 : Int32).toInt = 28 by decide)).mpr h9)
          refine lv_iload_n hx hb dX13_binds_40 rfl (lv_at hl 0 rfl) ?_
          refine lv_bipush (v := 25) hx hb dX13_binds_41 (by decide) ?_
          refine lv_icmp_lt (tgt := 50) hx hb dX13_binds_43 (by decide) (fun c9 => ?_) (fun c9 => ?_)
          · have hc5 : p0.toInt < 25 := (fi_lt rfl (show (25 : Int32).toInt = 25 by decide)).mp c9
            refine lv_iload_n hx hb dX13_binds_50 rfl (lv_at hl 0 rfl) ?_
            refine lv_bipush (v := 22) hx hb dX13_binds_51 (by decide) ?_
            refine lv_icmp_lt (tgt := 61) hx hb dX13_binds_53 (by decide) (fun c9 => ?_) (fun c9 => ?_)
            · have hc6 : p0.toInt < 22 := (fi_lt rfl (show (22 : Int32).toInt = 22 by decide)).mp c9
              refine lv_iconst (v := 5) hx hb dX13_binds_61 (by decide) ?_
              have hk_5 : (5 : Int32).toInt = 5 := by decide
              exact mz_jret (v := 5) hx hb hr rfl hlocks ⟨(by omega), (by omega), (by omega), (by omega), (by omega), (by omega)⟩ hM hS dX13_binds_62
            · have hc6 : ¬ (p0.toInt < 22) := fun h9 => c9 ((fi_lt rfl (show (22 : Int32).toInt = 22 by decide)).mpr h9)
              refine lv_bipush (v := 6) hx hb dX13_binds_56 (by decide) ?_
              refine lv_goto (tgt := 62) hx hb dX13_binds_58 (by decide) ?_
              have hk_6 : (6 : Int32).toInt = 6 := by decide
              exact mz_jret (v := 6) hx hb hr rfl hlocks ⟨(by omega), (by omega), (by omega), (by omega), (by omega), (by omega)⟩ hM hS dX13_binds_62
          · have hc5 : ¬ (p0.toInt < 25) := fun h9 => c9 ((fi_lt rfl (show (25 : Int32).toInt = 25 by decide)).mpr h9)
            refine lv_iconst (v := 4) hx hb dX13_binds_46 (by decide) ?_
            refine lv_goto (tgt := 62) hx hb dX13_binds_47 (by decide) ?_
            have hk_4 : (4 : Int32).toInt = 4 := by decide
            exact mz_jret (v := 4) hx hb hr rfl hlocks ⟨(by omega), (by omega), (by omega), (by omega), (by omega), (by omega)⟩ hM hS dX13_binds_62
        · have hc4 : p0.toInt = 28 := (fi_eq rfl (show (28 : Int32).toInt = 28 by decide)).mp c9
          refine lv_iconst (v := 3) hx hb dX13_binds_36 (by decide) ?_
          refine lv_goto (tgt := 62) hx hb dX13_binds_37 (by decide) ?_
          have hk_3 : (3 : Int32).toInt = 3 := by decide
          exact mz_jret (v := 3) hx hb hr rfl hlocks ⟨(by omega), (by omega), (by omega), (by omega), (by omega), (by omega)⟩ hM hS dX13_binds_62
      · have hc3 : p0.toInt = 29 := (fi_eq rfl (show (29 : Int32).toInt = 29 by decide)).mp c9
        refine lv_iconst (v := 2) hx hb dX13_binds_26 (by decide) ?_
        refine lv_goto (tgt := 62) hx hb dX13_binds_27 (by decide) ?_
        have hk_2 : (2 : Int32).toInt = 2 := by decide
        exact mz_jret (v := 2) hx hb hr rfl hlocks ⟨(by omega), (by omega), (by omega), (by omega), (by omega), (by omega)⟩ hM hS dX13_binds_62
    · have hc2 : p0.toInt = 30 := (fi_eq rfl (show (30 : Int32).toInt = 30 by decide)).mp c9
      refine lv_iconst (v := 1) hx hb dX13_binds_16 (by decide) ?_
      refine lv_goto (tgt := 62) hx hb dX13_binds_17 (by decide) ?_
      have hk_1 : (1 : Int32).toInt = 1 := by decide
      exact mz_jret (v := 1) hx hb hr rfl hlocks ⟨(by omega), (by omega), (by omega), (by omega), (by omega), (by omega)⟩ hM hS dX13_binds_62
  · have hc1 : ¬ (p0.toInt < 31) := fun h9 => c9 ((fi_lt rfl (show (31 : Int32).toInt = 31 by decide)).mpr h9)
    refine lv_iconst (v := 0) hx hb dX13_binds_6 (by decide) ?_
    refine lv_goto (tgt := 62) hx hb dX13_binds_7 (by decide) ?_
    have hk_0 : (0 : Int32).toInt = 0 := by decide
    exact mz_jret (v := 0) hx hb hr rfl hlocks ⟨(by omega), (by omega), (by omega), (by omega), (by omega), (by omega)⟩ hM hS dX13_binds_62
