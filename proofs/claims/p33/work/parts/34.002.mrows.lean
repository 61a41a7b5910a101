theorem dX13_ones_0 : decode cX13_ones 0 = .ok (.iconst 0, 1) := by decide +kernel
theorem dX13_ones_1 : decode cX13_ones 1 = .ok (.istore_n 1, 1) := by decide +kernel
theorem dX13_ones_2 : decode cX13_ones 2 = .ok (.iconst 0, 1) := by decide +kernel
theorem dX13_ones_3 : decode cX13_ones 3 = .ok (.istore_n 2, 1) := by decide +kernel
theorem dX13_ones_4 : decode cX13_ones 4 = .ok (.iload_n 2, 1) := by decide +kernel
theorem dX13_ones_5 : decode cX13_ones 5 = .ok (.bipush 8, 2) := by decide +kernel
theorem dX13_ones_7 : decode cX13_ones 7 = .ok (.if_icmp .ge 17, 3) := by decide +kernel
theorem dX13_ones_24 : decode cX13_ones 24 = .ok (.iload_n 1, 1) := by decide +kernel
theorem dX13_ones_25 : decode cX13_ones 25 = .ok (.ireturn, 1) := by decide +kernel
theorem dX13_ones_10 : decode cX13_ones 10 = .ok (.iload_n 1, 1) := by decide +kernel
theorem dX13_ones_11 : decode cX13_ones 11 = .ok (.iload_n 0, 1) := by decide +kernel
theorem dX13_ones_12 : decode cX13_ones 12 = .ok (.iload_n 2, 1) := by decide +kernel
theorem dX13_ones_13 : decode cX13_ones 13 = .ok (.ishr, 1) := by decide +kernel
theorem dX13_ones_14 : decode cX13_ones 14 = .ok (.iconst 1, 1) := by decide +kernel
theorem dX13_ones_15 : decode cX13_ones 15 = .ok (.iand, 1) := by decide +kernel
theorem dX13_ones_16 : decode cX13_ones 16 = .ok (.iadd, 1) := by decide +kernel
theorem dX13_ones_17 : decode cX13_ones 17 = .ok (.istore_n 1, 1) := by decide +kernel
theorem dX13_ones_18 : decode cX13_ones 18 = .ok (.iinc 2 1, 3) := by decide +kernel
theorem dX13_ones_21 : decode cX13_ones 21 = .ok (.goto (-17), 3) := by decide +kernel
set_option maxHeartbeats 4000000 in
set_option maxRecDepth 100000 in
theorem k_X13_ones (l : Launch) (D : va_G) (cy : Nat → ClassId) (ld ad : Nat → Nat) (am : Nat) (hD : mz_D ad am) (Fa : Nat → Int32) (Ga : Nat → Int64) (Ra : Nat → Nat → Int32) (Sa : Nat → Nat → Int64) (p0 : Int32) : Met l yX13_ones (wl yX13_ones cX13_ones 3 (some .int)) ({ frames := 3, cells := 0, slots := 0, locals := 140 }) (mz_p D cy ld ad am Fa Ga Ra Sa [.int p0]) (mz_j D cy ad am Fa Ga Ra Sa (fun r => 0 ≤ r.toInt ∧ r.toInt ≤ 8)) 0 0 (mz_W ad am) := by
  refine mz_met (y := yX13_ones) (cc := cX13_ones) (maxL := 3) (ret := (some .int)) (av := [.int p0]) _ (by decide) (Nat.le_of_ble_eq_true rfl) ?_
  intro p e s m args below meth c hx hb hr hml hts htl hown hlocks hK H locs hM hS ls hl
  have hown : s.vm.findClass RX13 = some m.cls := hown
  have hl : lv_has ls 3 [(0, .int p0)] := hl
  have hr_p0 := tk_rng p0
  refine lv_iconst (v := 0) hx hb dX13_ones_0 (by decide) ?_
  refine lv_istore_n (lv' := [(1, .int 0), (0, .int p0)]) hx hb dX13_ones_1 rfl hl (by decide) rfl (fun ls hl => ?_)
  refine lv_iconst (v := 0) hx hb dX13_ones_2 (by decide) ?_
  refine lv_istore_n (lv' := [(2, .int 0), (1, .int 0), (0, .int p0)]) hx hb dX13_ones_3 rfl hl (by decide) rfl (fun ls hl => ?_)
  have hl88 : ∀ (N_l88 : Nat) (v28 : Int32) (v29 : Int32), (v28.toInt ≤ 8) → (0 ≤ v29.toInt) → (0 ≤ v28.toInt + (-1) * v29.toInt) → ((-1) * v28.toInt + 8 < (N_l88 : Int)) → ∀ ls : Array Slot, lv_has ls 3 [(2, .int v28), (1, .int v29), (0, .int p0)] → W p l e ({ frames := 3, cells := 0, slots := 0, locals := 140 }) s m args below meth c H locs 0 0 (MQ below (mz_j D cy ad am Fa Ga Ra Sa (fun r => 0 ≤ r.toInt ∧ r.toInt ≤ 8)) args s 0 0 (mz_W ad am)) (F0 m 4 ls []) := by
    intro N_l88
    induction N_l88 with
    | zero => intro v28 v29 hq0_l88 hq1_l88 hq2_l88 hm_l88 ls hl; exfalso; omega
    | succ N_l88 ih_l88 =>
      intro v28 v29 hq0_l88 hq1_l88 hq2_l88 hm_l88 ls hl
      refine lv_iload_n hx hb dX13_ones_4 rfl (lv_at hl 0 rfl) ?_
      refine lv_bipush (v := 8) hx hb dX13_ones_5 (by decide) ?_
      refine lv_icmp_ge (tgt := 24) hx hb dX13_ones_7 (by decide) (fun c9 => ?_) (fun c9 => ?_)
      · have hc89 : 8 ≤ v28.toInt := (fi_le (show (8 : Int32).toInt = 8 by decide) rfl).mp c9
        refine lv_iload_n hx hb dX13_ones_24 rfl (lv_at hl 1 rfl) ?_
        exact mz_jret (v := v29) hx hb hr rfl hlocks ⟨(by omega), (by omega)⟩ hM hS dX13_ones_25
      · have hc89 : ¬ (8 ≤ v28.toInt) := fun h9 => c9 ((fi_le (show (8 : Int32).toInt = 8 by decide) rfl).mpr h9)
        refine lv_iload_n hx hb dX13_ones_10 rfl (lv_at hl 1 rfl) ?_
        refine lv_iload_n hx hb dX13_ones_11 rfl (lv_at hl 2 rfl) ?_
        refine lv_iload_n hx hb dX13_ones_12 rfl (lv_at hl 0 rfl) ?_
        refine lv_ishr hx hb dX13_ones_13 ?_
        refine tk_any (fun v94 => ?_)
        refine lv_iconst (v := 1) hx hb dX13_ones_14 (by decide) ?_
        refine lv_iand hx hb dX13_ones_15 ?_
        refine tk_say (P := fun z => 0 ≤ z.toInt ∧ z.toInt ≤ 1) (tk_and v94 1 (by decide) (by decide)) (fun v95 h_v95 => ?_)
        refine lv_iadd hx hb dX13_ones_16 ?_
        refine tk_add rfl rfl (by omega) (by omega) (fun v96 h_v96 => ?_)
        refine lv_istore_n (lv' := [(1, .int v96), (2, .int v28), (0, .int p0)]) hx hb dX13_ones_17 rfl hl (by decide) rfl (fun ls hl => ?_)
        obtain ⟨v97, h_v97, e_v97⟩ := tk_inc v28 1 (by decide) (by omega) (by omega)
        refine lv_iinc (v := v97) (lv' := [(2, .int v97), (1, .int v96), (0, .int p0)]) hx hb dX13_ones_18 hl (k := 1) rfl e_v97 (by decide) rfl (fun ls hl => ?_)
        refine lv_goto (tgt := 4) hx hb dX13_ones_21 (by decide) ?_
        exact ih_l88 v97 v96 (by omega) (by omega) (by omega) (by omega) _ (lv_sub hl [0, 1, 2] rfl)
  have hk_0 : (0 : Int32).toInt = 0 := by decide
  have hk_0 : (0 : Int32).toInt = 0 := by decide
  exact hl88 9 0 0 (by omega) (by omega) (by omega) (by omega) _ (lv_sub hl [0, 1, 2] rfl)
