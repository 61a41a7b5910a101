theorem dX13_manyOf_0 : decode cX13_manyOf 0 = .ok (.iconst 0, 1) := by decide +kernel
theorem dX13_manyOf_1 : decode cX13_manyOf 1 = .ok (.istore_n 2, 1) := by decide +kernel
theorem dX13_manyOf_2 : decode cX13_manyOf 2 = .ok (.iconst 0, 1) := by decide +kernel
theorem dX13_manyOf_3 : decode cX13_manyOf 3 = .ok (.istore_n 3, 1) := by decide +kernel
theorem dX13_manyOf_4 : decode cX13_manyOf 4 = .ok (.iload_n 3, 1) := by decide +kernel
theorem dX13_manyOf_5 : decode cX13_manyOf 5 = .ok (.aload_n 0, 1) := by decide +kernel
theorem dX13_manyOf_6 : decode cX13_manyOf 6 = .ok (.getfield 13, 3) := by decide +kernel
theorem dX13_manyOf_9 : decode cX13_manyOf 9 = .ok (.iconst 0, 1) := by decide +kernel
theorem dX13_manyOf_10 : decode cX13_manyOf 10 = .ok (.iaload, 1) := by decide +kernel
theorem dX13_manyOf_11 : decode cX13_manyOf 11 = .ok (.if_icmp .ge 27, 3) := by decide +kernel
theorem dX13_manyOf_38 : decode cX13_manyOf 38 = .ok (.iload_n 2, 1) := by decide +kernel
theorem dX13_manyOf_39 : decode cX13_manyOf 39 = .ok (.ireturn, 1) := by decide +kernel
theorem dX13_manyOf_14 : decode cX13_manyOf 14 = .ok (.iload_n 2, 1) := by decide +kernel
theorem dX13_manyOf_15 : decode cX13_manyOf 15 = .ok (.aload_n 0, 1) := by decide +kernel
theorem dX13_manyOf_16 : decode cX13_manyOf 16 = .ok (.iload_n 3, 1) := by decide +kernel
theorem dX13_manyOf_17 : decode cX13_manyOf 17 = .ok (.iconst 2, 1) := by decide +kernel
theorem dX13_manyOf_18 : decode cX13_manyOf 18 = .ok (.invokevirtual 207, 3) := by decide +kernel
theorem dX13_manyOf_21 : decode cX13_manyOf 21 = .ok (.iload_n 1, 1) := by decide +kernel
theorem dX13_manyOf_30 : decode cX13_manyOf 30 = .ok (.iadd, 1) := by decide +kernel
theorem dX13_manyOf_31 : decode cX13_manyOf 31 = .ok (.istore_n 2, 1) := by decide +kernel
theorem dX13_manyOf_32 : decode cX13_manyOf 32 = .ok (.iinc 3 1, 3) := by decide +kernel
theorem dX13_manyOf_35 : decode cX13_manyOf 35 = .ok (.goto (-31), 3) := by decide +kernel
theorem dX13_manyOf_22 : decode cX13_manyOf 22 = .ok (.if_icmp .ne 7, 3) := by decide +kernel
theorem dX13_manyOf_29 : decode cX13_manyOf 29 = .ok (.iconst 0, 1) := by decide +kernel
theorem dX13_manyOf_25 : decode cX13_manyOf 25 = .ok (.iconst 1, 1) := by decide +kernel
theorem dX13_manyOf_26 : decode cX13_manyOf 26 = .ok (.goto 4, 3) := by decide +kernel
set_option maxHeartbeats 4000000 in
set_option maxRecDepth 100000 in
theorem k_X13_manyOf (l : Launch) (D : va_G) (cy : Nat → ClassId) (ld ad : Nat → Nat) (am : Nat) (hD : mz_D ad am) (Fa : Nat → Int32) (Ga : Nat → Int64) (Ra : Nat → Nat → Int32) (Sa : Nat → Nat → Int64) (p1 : Int32) (hIF : mz_IF false Fa) (hIG : mz_IG Ga) (hIR : mz_IR [] true Ra) : Met l yX13_manyOf (wl yX13_manyOf cX13_manyOf 4 (some .int)) ({ frames := 4, cells := 0, slots := 0, locals := 210 }) (mz_p D cy ld ad am Fa Ga Ra Sa [.ref am, .int p1]) (mz_j D cy ad am Fa Ga Ra Sa (fun r => 0 ≤ r.toInt ∧ r.toInt ≤ 8)) 0 0 (mz_W ad am) := by
  refine mz_met (y := yX13_manyOf) (cc := cX13_manyOf) (maxL := 4) (ret := (some .int)) (av := [.ref am, .int p1]) _ (by decide) (Nat.le_of_ble_eq_true rfl) ?_
  intro p e s m args below meth c hx hb hr hml hts htl hown hlocks hK H locs hM hS ls hl
  have hown : s.vm.findClass RX13 = some m.cls := hown
  have hl : lv_has ls 4 [(0, .ref am), (1, .int p1)] := hl
  have hr_p1 := tk_rng p1
  refine lv_iconst (v := 0) hx hb dX13_manyOf_0 (by decide) ?_
  refine lv_istore_n (lv' := [(2, .int 0), (0, .ref am), (1, .int p1)]) hx hb dX13_manyOf_1 rfl hl (by decide) rfl (fun ls hl => ?_)
  refine lv_iconst (v := 0) hx hb dX13_manyOf_2 (by decide) ?_
  refine lv_istore_n (lv' := [(3, .int 0), (2, .int 0), (0, .ref am), (1, .int p1)]) hx hb dX13_manyOf_3 rfl hl (by decide) rfl (fun ls hl => ?_)
  have hl194 : ∀ (N_l194 : Nat) (v30 : Int32) (v31 : Int32) (H : Heap) (locs : List Loc), (v30.toInt ≤ 8) → (0 ≤ v31.toInt) → (0 ≤ v30.toInt + (-1) * v31.toInt) → (mz_S D cy ad am Fa Ga Ra Sa H) → (va_S (mz_W ad am) s.heap H locs) → ((-1) * v30.toInt + 8 < (N_l194 : Int)) → ∀ ls : Array Slot, lv_has ls 4 [(3, .int v30), (2, .int v31), (0, .ref am), (1, .int p1)] → W p l e ({ frames := 4, cells := 0, slots := 0, locals := 210 }) s m args below meth c H locs 0 0 (MQ below (mz_j D cy ad am Fa Ga Ra Sa (fun r => 0 ≤ r.toInt ∧ r.toInt ≤ 8)) args s 0 0 (mz_W ad am)) (F0 m 4 ls []) := by
    intro N_l194
    induction N_l194 with
    | zero => intro v30 v31 H locs hq0_l194 hq1_l194 hq2_l194 hM hS hm_l194 ls hl; exfalso; omega
    | succ N_l194 ih_l194 =>
      intro v30 v31 H locs hq0_l194 hq1_l194 hq2_l194 hM hS hm_l194 ls hl
      refine lv_iload_n hx hb dX13_manyOf_4 rfl (lv_at hl 0 rfl) ?_
      refine lv_aload_n hx hb dX13_manyOf_5 rfl (lv_at hl 2 rfl) ?_
      refine mz_getR hx hb htl hown hK hM 3 (Nat.le_of_ble_eq_true rfl) (Nat.le_of_ble_eq_true rfl) (htl _ mw_188) (fun _ h9 => h9) dX13_manyOf_6 ?_
      refine lv_iconst (v := 0) hx hb dX13_manyOf_9 (by decide) ?_
      refine mz_iald hx hb hK hM 3 (Nat.le_of_ble_eq_true rfl) rfl (nn := 5560) rfl (I := 0) (by decide) (by decide) (by decide) dX13_manyOf_10 (fun v196 hf195 => ?_)
      have hf195 : Ra 3 0 = v196 := hf195
      have hq_v196 := tk_rng v196
      have hr_v196 : 0 ≤ v196.toInt ∧ v196.toInt ≤ 8 := by have h9 := mz_r3c 0 (hIR.at 3) hf195 (by decide); unfold mE at h9; omega
      refine lv_icmp_ge (tgt := 38) hx hb dX13_manyOf_11 (by decide) (fun c9 => ?_) (fun c9 => ?_)
      · have hc197 : v196.toInt ≤ v30.toInt := (fi_le rfl rfl).mp c9
        refine lv_iload_n hx hb dX13_manyOf_38 rfl (lv_at hl 1 rfl) ?_
        exact mz_jret (v := v31) hx hb hr rfl hlocks ⟨(by omega), (by omega)⟩ hM hS dX13_manyOf_39
      · have hc197 : ¬ (v196.toInt ≤ v30.toInt) := fun h9 => c9 ((fi_le rfl rfl).mpr h9)
        refine lv_iload_n hx hb dX13_manyOf_14 rfl (lv_at hl 1 rfl) ?_
        refine lv_aload_n hx hb dX13_manyOf_15 rfl (lv_at hl 2 rfl) ?_
        refine lv_iload_n hx hb dX13_manyOf_16 rfl (lv_at hl 0 rfl) ?_
        refine lv_iconst (v := 2) hx hb dX13_manyOf_17 (by decide) ?_
        have hk_2 : (2 : Int32).toInt = 2 := by decide
        refine mz_Vj (As := [.int v30, .int 2]) (rest := [.int v31]) ⟨hx, hb, hml, hown, hts⟩ hK hM hS (k_X13_ofSinger_2 l D cy ld ad am hD _ _ _ _ v30 hIF hIG hIR (by omega) (by omega)) ⟨callB_of 2 hts (wl_in mw_324) rfl rfl rfl (htl _ mw_5) (htl _ mw_321) hd_yX13_ofSinger ⟨(Nat.le_of_ble_eq_true rfl), (Nat.le_of_ble_eq_true rfl)⟩, htl _ mw_322, htl _ mw_323⟩ rfl hl.1 rfl (Nat.le_of_ble_eq_true rfl) dX13_manyOf_18 ⟨(Nat.le_of_ble_eq_true rfl), (Nat.le_of_ble_eq_true rfl)⟩ (fun v208 H locs hpo hM hS => ?_)
        obtain ⟨hpo209, hpo210⟩ := hpo
        have hq_v208 := tk_rng v208
        refine lv_iload_n hx hb dX13_manyOf_21 rfl (lv_at hl 3 rfl) ?_
        have hj215 : ∀ (v214 : Int32), (0 ≤ v214.toInt) → (v214.toInt ≤ 1) → ∀ ls : Array Slot, lv_has ls 4 [(3, .int v30), (0, .ref am), (1, .int p1)] → W p l e ({ frames := 4, cells := 0, slots := 0, locals := 210 }) s m args below meth c H locs 0 0 (MQ below (mz_j D cy ad am Fa Ga Ra Sa (fun r => 0 ≤ r.toInt ∧ r.toInt ≤ 8)) args s 0 0 (mz_W ad am)) (F0 m 30 ls [.int v214, .int v31]) := by
          intro v214 hq0_j215 hq1_j215 ls hl
          refine lv_iadd hx hb dX13_manyOf_30 ?_
          refine tk_add rfl rfl (by omega) (by omega) (fun v216 h_v216 => ?_)
          refine lv_istore_n (lv' := [(2, .int v216), (3, .int v30), (0, .ref am), (1, .int p1)]) hx hb dX13_manyOf_31 rfl hl (by decide) rfl (fun ls hl => ?_)
          obtain ⟨v217, h_v217, e_v217⟩ := tk_inc v30 1 (by decide) (by omega) (by omega)
          refine lv_iinc (v := v217) (lv' := [(3, .int v217), (2, .int v216), (0, .ref am), (1, .int p1)]) hx hb dX13_manyOf_32 hl (k := 1) rfl e_v217 (by decide) rfl (fun ls hl => ?_)
          refine lv_goto (tgt := 4) hx hb dX13_manyOf_35 (by decide) ?_
          exact ih_l194 v217 v216 _ _ (by omega) (by omega) (by omega) hM hS (by omega) _ (lv_sub hl [0, 1, 2, 3] rfl)
        refine lv_icmp_ne (tgt := 29) hx hb dX13_manyOf_22 (by decide) (fun c9 => ?_) (fun c9 => ?_)
        · have hc212 : ¬ (v208.toInt = p1.toInt) := fun h9 => c9 ((fi_eq rfl rfl).mpr h9)
          refine lv_iconst (v := 0) hx hb dX13_manyOf_29 (by decide) ?_
          have hk_0 : (0 : Int32).toInt = 0 := by decide
          exact hj215 0 (by omega) (by omega) _ (lv_sub hl [0, 2, 3] rfl)
        · have hc212 : v208.toInt = p1.toInt := (fi_eq rfl rfl).mp c9
          refine lv_iconst (v := 1) hx hb dX13_manyOf_25 (by decide) ?_
          refine lv_goto (tgt := 30) hx hb dX13_manyOf_26 (by decide) ?_
          have hk_1 : (1 : Int32).toInt = 1 := by decide
          exact hj215 1 (by omega) (by omega) _ (lv_sub hl [0, 2, 3] rfl)
  have hk_0 : (0 : Int32).toInt = 0 := by decide
  have hk_0 : (0 : Int32).toInt = 0 := by decide
  exact hl194 9 0 0 _ _ (by omega) (by omega) (by omega) hM hS (by omega) _ (lv_sub hl [0, 1, 2, 3] rfl)
