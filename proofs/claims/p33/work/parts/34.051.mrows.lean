theorem dX13_orderPartAt_0 : decode cX13_orderPartAt 0 = .ok (.iconst (-1), 1) := by decide +kernel
theorem dX13_orderPartAt_1 : decode cX13_orderPartAt 1 = .ok (.istore_n 1, 1) := by decide +kernel
theorem dX13_orderPartAt_2 : decode cX13_orderPartAt 2 = .ok (.iconst 0, 1) := by decide +kernel
theorem dX13_orderPartAt_3 : decode cX13_orderPartAt 3 = .ok (.istore_n 2, 1) := by decide +kernel
theorem dX13_orderPartAt_4 : decode cX13_orderPartAt 4 = .ok (.iload_n 2, 1) := by decide +kernel
theorem dX13_orderPartAt_5 : decode cX13_orderPartAt 5 = .ok (.bipush 7, 2) := by decide +kernel
theorem dX13_orderPartAt_7 : decode cX13_orderPartAt 7 = .ok (.if_icmp .ge 30, 3) := by decide +kernel
theorem dX13_orderPartAt_37 : decode cX13_orderPartAt 37 = .ok (.iload_n 1, 1) := by decide +kernel
theorem dX13_orderPartAt_38 : decode cX13_orderPartAt 38 = .ok (.ireturn, 1) := by decide +kernel
theorem dX13_orderPartAt_10 : decode cX13_orderPartAt 10 = .ok (.aload_n 0, 1) := by decide +kernel
theorem dX13_orderPartAt_11 : decode cX13_orderPartAt 11 = .ok (.aload_n 0, 1) := by decide +kernel
theorem dX13_orderPartAt_12 : decode cX13_orderPartAt 12 = .ok (.getfield 87, 3) := by decide +kernel
theorem dX13_orderPartAt_15 : decode cX13_orderPartAt 15 = .ok (.iload_n 2, 1) := by decide +kernel
theorem dX13_orderPartAt_16 : decode cX13_orderPartAt 16 = .ok (.laload, 1) := by decide +kernel
theorem dX13_orderPartAt_17 : decode cX13_orderPartAt 17 = .ok (.invokevirtual 296, 3) := by decide +kernel
theorem dX13_orderPartAt_20 : decode cX13_orderPartAt 20 = .ok (.ifCond .eq 9, 3) := by decide +kernel
theorem dX13_orderPartAt_29 : decode cX13_orderPartAt 29 = .ok (.iload_n 1, 1) := by decide +kernel
theorem dX13_orderPartAt_30 : decode cX13_orderPartAt 30 = .ok (.istore_n 1, 1) := by decide +kernel
theorem dX13_orderPartAt_31 : decode cX13_orderPartAt 31 = .ok (.iinc 2 1, 3) := by decide +kernel
theorem dX13_orderPartAt_34 : decode cX13_orderPartAt 34 = .ok (.goto (-30), 3) := by decide +kernel
theorem dX13_orderPartAt_23 : decode cX13_orderPartAt 23 = .ok (.iload_n 2, 1) := by decide +kernel
theorem dX13_orderPartAt_24 : decode cX13_orderPartAt 24 = .ok (.iconst 1, 1) := by decide +kernel
theorem dX13_orderPartAt_25 : decode cX13_orderPartAt 25 = .ok (.iadd, 1) := by decide +kernel
theorem dX13_orderPartAt_26 : decode cX13_orderPartAt 26 = .ok (.goto 4, 3) := by decide +kernel
set_option maxHeartbeats 4000000 in
set_option maxRecDepth 100000 in
theorem k_X13_orderPartAt (l : Launch) (D : va_G) (cy : Nat → ClassId) (ld ad : Nat → Nat) (am : Nat) (hD : mz_D ad am) (Fa : Nat → Int32) (Ga : Nat → Int64) (Ra : Nat → Nat → Int32) (Sa : Nat → Nat → Int64) (gs : Int32) (hIF : mz_IF false Fa) (hIG : mz_IG Ga) (hIR : mz_IR [] true Ra) (hg_0 : Fa 16 = gs) : Met l yX13_orderPartAt (wl yX13_orderPartAt cX13_orderPartAt 3 (some .int)) ({ frames := 4, cells := 0, slots := 0, locals := 210 }) (mz_p D cy ld ad am Fa Ga Ra Sa [.ref am]) (mz_j D cy ad am Fa Ga Ra Sa (fun r => (0 ≤ r.toInt → gs.toInt + (-1) = 0 ∧ 1 ≤ r.toInt) ∧ (-1) ≤ r.toInt ∧ r.toInt ≤ 7)) 0 0 (mz_W ad am) := by
  refine mz_met (y := yX13_orderPartAt) (cc := cX13_orderPartAt) (maxL := 3) (ret := (some .int)) (av := [.ref am]) _ (by decide) (Nat.le_of_ble_eq_true rfl) ?_
  intro p e s m args below meth c hx hb hr hml hts htl hown hlocks hK H locs hM hS ls hl
  have hown : s.vm.findClass RX13 = some m.cls := hown
  have hl : lv_has ls 3 [(0, .ref am)] := hl
  have hq_gs := tk_rng gs
  have hr_gs : 0 ≤ gs.toInt ∧ gs.toInt ≤ 3 := hIF.at hg_0
  refine lv_iconst (v := (-1)) hx hb dX13_orderPartAt_0 (by decide) ?_
  refine lv_istore_n (lv' := [(1, .int (-1)), (0, .ref am)]) hx hb dX13_orderPartAt_1 rfl hl (by decide) rfl (fun ls hl => ?_)
  refine lv_iconst (v := 0) hx hb dX13_orderPartAt_2 (by decide) ?_
  refine lv_istore_n (lv' := [(2, .int 0), (1, .int (-1)), (0, .ref am)]) hx hb dX13_orderPartAt_3 rfl hl (by decide) rfl (fun ls hl => ?_)
  have hl227 : ∀ (N_l227 : Nat) (v36 : Int32) (v37 : Int32) (H : Heap) (locs : List Loc), (v36.toInt ≤ 7) → (0 ≤ v36.toInt) → (v37.toInt ≤ 7) → ((-1) ≤ v37.toInt) → (mz_S D cy ad am Fa Ga Ra Sa H) → (va_S (mz_W ad am) s.heap H locs) → ((0 ≤ v37.toInt → gs.toInt + (-1) = 0 ∧ 1 ≤ v37.toInt)) → ((-1) * v36.toInt + 7 < (N_l227 : Int)) → ∀ ls : Array Slot, lv_has ls 3 [(2, .int v36), (1, .int v37), (0, .ref am)] → W p l e ({ frames := 4, cells := 0, slots := 0, locals := 210 }) s m args below meth c H locs 0 0 (MQ below (mz_j D cy ad am Fa Ga Ra Sa (fun r => (0 ≤ r.toInt → gs.toInt + (-1) = 0 ∧ 1 ≤ r.toInt) ∧ (-1) ≤ r.toInt ∧ r.toInt ≤ 7)) args s 0 0 (mz_W ad am)) (F0 m 4 ls []) := by
    intro N_l227
    induction N_l227 with
    | zero => intro v36 v37 H locs hq0_l227 hq1_l227 hq2_l227 hq3_l227 hM hS hc0_l227 hm_l227 ls hl; exfalso; omega
    | succ N_l227 ih_l227 =>
      intro v36 v37 H locs hq0_l227 hq1_l227 hq2_l227 hq3_l227 hM hS hc0_l227 hm_l227 ls hl
      refine lv_iload_n hx hb dX13_orderPartAt_4 rfl (lv_at hl 0 rfl) ?_
      refine lv_bipush (v := 7) hx hb dX13_orderPartAt_5 (by decide) ?_
      refine lv_icmp_ge (tgt := 37) hx hb dX13_orderPartAt_7 (by decide) (fun c9 => ?_) (fun c9 => ?_)
      · have hc228 : 7 ≤ v36.toInt := (fi_le (show (7 : Int32).toInt = 7 by decide) rfl).mp c9
        refine lv_iload_n hx hb dX13_orderPartAt_37 rfl (lv_at hl 1 rfl) ?_
        exact mz_jret (v := v37) hx hb hr rfl hlocks ⟨(by omega), (by omega), (by omega)⟩ hM hS dX13_orderPartAt_38
      · have hc228 : ¬ (7 ≤ v36.toInt) := fun h9 => c9 ((fi_le (show (7 : Int32).toInt = 7 by decide) rfl).mpr h9)
        refine lv_aload_n hx hb dX13_orderPartAt_10 rfl (lv_at hl 2 rfl) ?_
        refine lv_aload_n hx hb dX13_orderPartAt_11 rfl (lv_at hl 2 rfl) ?_
        refine mz_getR hx hb htl hown hK hM 32 (Nat.le_of_ble_eq_true rfl) (Nat.le_of_ble_eq_true rfl) (htl _ mw_217) (fun _ h9 => h9) dX13_orderPartAt_12 ?_
        refine lv_iload_n hx hb dX13_orderPartAt_15 rfl (lv_at hl 0 rfl) ?_
        refine mz_lald hx hb hK hM 32 (Nat.le_of_ble_eq_true rfl) rfl (nn := 7) rfl rfl (by omega) (by omega) dX13_orderPartAt_16 (fun w243 _ => ?_)
        obtain ⟨w245, hf244⟩ : ∃ z : Int64, Ga 17 = z := ⟨_, rfl⟩
        have hq_w245 := tk_rngL w245
        refine mz_Vj (As := [.long w243]) (rest := []) ⟨hx, hb, hml, hown, hts⟩ hK hM hS (k_X13_isWord l D cy ld ad am hD _ _ _ _ w243 gs w245 hIF hIG hIR hg_0 hf244) ⟨callB_of 1 hts (wl_in mw_709) rfl rfl rfl (htl _ mw_5) (htl _ mw_706) hd_yX13_isWord ⟨(Nat.le_of_ble_eq_true rfl), (Nat.le_of_ble_eq_true rfl)⟩, htl _ mw_707, htl _ mw_708⟩ rfl hl.1 rfl (Nat.le_of_ble_eq_true rfl) dX13_orderPartAt_17 ⟨(Nat.le_of_ble_eq_true rfl), (Nat.le_of_ble_eq_true rfl)⟩ (fun v246 H locs hpo hM hS => ?_)
        obtain ⟨hpo247, hpo248, hpo249, hpo250, hpo251⟩ := hpo
        have hq_v246 := tk_rng v246
        refine lv_if_eq (tgt := 29) hx hb dX13_orderPartAt_20 (by decide) (fun c9 => ?_) (fun c9 => ?_)
        · have hc253 : v246.toInt = 0 := (fi_eq rfl (show (0 : Int32).toInt = 0 by decide)).mp c9
          refine lv_iload_n hx hb dX13_orderPartAt_29 rfl (lv_at hl 1 rfl) ?_
          refine lv_istore_n (lv' := [(1, .int v37), (2, .int v36), (0, .ref am)]) hx hb dX13_orderPartAt_30 rfl hl (by decide) rfl (fun ls hl => ?_)
          obtain ⟨v254, h_v254, e_v254⟩ := tk_inc v36 1 (by decide) (by omega) (by omega)
          refine lv_iinc (v := v254) (lv' := [(2, .int v254), (1, .int v37), (0, .ref am)]) hx hb dX13_orderPartAt_31 hl (k := 1) rfl e_v254 (by decide) rfl (fun ls hl => ?_)
          refine lv_goto (tgt := 4) hx hb dX13_orderPartAt_34 (by decide) ?_
          exact ih_l227 v254 v37 _ _ (by omega) (by omega) (by omega) (by omega) hM hS (by omega) (by omega) _ (lv_sub hl [0, 1, 2] rfl)
        · have hc253 : ¬ (v246.toInt = 0) := fun h9 => c9 ((fi_eq rfl (show (0 : Int32).toInt = 0 by decide)).mpr h9)
          have hwk_255 : (-1) * w243.toInt + w245.toInt = 0 ∧ gs.toInt + (-1) = 0 := by omega
          refine lv_iload_n hx hb dX13_orderPartAt_23 rfl (lv_at hl 0 rfl) ?_
          refine lv_iconst (v := 1) hx hb dX13_orderPartAt_24 (by decide) ?_
          refine lv_iadd hx hb dX13_orderPartAt_25 ?_
          refine tk_add rfl (show (1 : Int32).toInt = 1 by decide) (by omega) (by omega) (fun v256 h_v256 => ?_)
          refine lv_goto (tgt := 30) hx hb dX13_orderPartAt_26 (by decide) ?_
          refine lv_istore_n (lv' := [(1, .int v256), (2, .int v36), (0, .ref am)]) hx hb dX13_orderPartAt_30 rfl hl (by decide) rfl (fun ls hl => ?_)
          obtain ⟨v257, h_v257, e_v257⟩ := tk_inc v36 1 (by decide) (by omega) (by omega)
          refine lv_iinc (v := v257) (lv' := [(2, .int v257), (1, .int v256), (0, .ref am)]) hx hb dX13_orderPartAt_31 hl (k := 1) rfl e_v257 (by decide) rfl (fun ls hl => ?_)
          refine lv_goto (tgt := 4) hx hb dX13_orderPartAt_34 (by decide) ?_
          exact ih_l227 v257 v256 _ _ (by omega) (by omega) (by omega) (by omega) hM hS (by omega) (by omega) _ (lv_sub hl [0, 1, 2] rfl)
  have hk_0 : (0 : Int32).toInt = 0 := by decide
  have hk_m1 : ((-1) : Int32).toInt = (-1) := by decide
  exact hl227 8 0 (-1) _ _ (by omega) (by omega) (by omega) (by omega) hM hS (by omega) (by omega) _ (lv_sub hl [0, 1, 2] rfl)
