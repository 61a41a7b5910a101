section
theorem hd_yX13_isWord : yX13_isWord.cls ≠ "java/lang/invoke/MethodHandle" ∧ yX13_isWord.cls ≠ "java/lang/invoke/VarHandle" ∧ (parseMethodDescriptor yX13_isWord.desc).map (fun d => d.parameters.length) = some 1 := by decide +kernel
theorem dX13_partAt_0 : decode cX13_partAt 0 = .ok (.iconst (-1), 1) := by decide +kernel
theorem dX13_partAt_1 : decode cX13_partAt 1 = .ok (.istore_n 1, 1) := by decide +kernel
theorem dX13_partAt_2 : decode cX13_partAt 2 = .ok (.iconst 0, 1) := by decide +kernel
theorem dX13_partAt_3 : decode cX13_partAt 3 = .ok (.istore_n 2, 1) := by decide +kernel
theorem dX13_partAt_4 : decode cX13_partAt 4 = .ok (.iload_n 2, 1) := by decide +kernel
theorem dX13_partAt_5 : decode cX13_partAt 5 = .ok (.bipush 9, 2) := by decide +kernel
theorem dX13_partAt_7 : decode cX13_partAt 7 = .ok (.if_icmp .ge 30, 3) := by decide +kernel
theorem dX13_partAt_37 : decode cX13_partAt 37 = .ok (.iload_n 1, 1) := by decide +kernel
theorem dX13_partAt_38 : decode cX13_partAt 38 = .ok (.ireturn, 1) := by decide +kernel
theorem dX13_partAt_10 : decode cX13_partAt 10 = .ok (.aload_n 0, 1) := by decide +kernel
theorem dX13_partAt_11 : decode cX13_partAt 11 = .ok (.aload_n 0, 1) := by decide +kernel
theorem dX13_partAt_12 : decode cX13_partAt 12 = .ok (.getfield 75, 3) := by decide +kernel
theorem dX13_partAt_15 : decode cX13_partAt 15 = .ok (.iload_n 2, 1) := by decide +kernel
theorem dX13_partAt_16 : decode cX13_partAt 16 = .ok (.laload, 1) := by decide +kernel
theorem dX13_partAt_17 : decode cX13_partAt 17 = .ok (.invokevirtual 296, 3) := by decide +kernel
theorem dX13_partAt_20 : decode cX13_partAt 20 = .ok (.ifCond .eq 9, 3) := by decide +kernel
theorem dX13_partAt_29 : decode cX13_partAt 29 = .ok (.iload_n 1, 1) := by decide +kernel
theorem dX13_partAt_30 : decode cX13_partAt 30 = .ok (.istore_n 1, 1) := by decide +kernel
theorem dX13_partAt_31 : decode cX13_partAt 31 = .ok (.iinc 2 1, 3) := by decide +kernel
theorem dX13_partAt_34 : decode cX13_partAt 34 = .ok (.goto (-30), 3) := by decide +kernel
theorem dX13_partAt_23 : decode cX13_partAt 23 = .ok (.iload_n 2, 1) := by decide +kernel
theorem dX13_partAt_24 : decode cX13_partAt 24 = .ok (.iconst 1, 1) := by decide +kernel
theorem dX13_partAt_25 : decode cX13_partAt 25 = .ok (.iadd, 1) := by decide +kernel
theorem dX13_partAt_26 : decode cX13_partAt 26 = .ok (.goto 4, 3) := by decide +kernel
set_option maxHeartbeats 4000000 in
set_option maxRecDepth 100000 in
theorem k_X13_partAt (l : Launch) (D : va_G) (cy : Nat → ClassId) (ld ad : Nat → Nat) (am : Nat) (hD : mz_D ad am) (Fa : Nat → Int32) (Ga : Nat → Int64) (Ra : Nat → Nat → Int32) (Sa : Nat → Nat → Int64) (gs : Int32) (hIF : mz_IF false Fa) (hIG : mz_IG Ga) (hIR : mz_IR [] true Ra) (hg_0 : Fa 16 = gs) : Met l yX13_partAt (wl yX13_partAt cX13_partAt 3 (some .int)) ({ frames := 4, cells := 0, slots := 0, locals := 210 }) (mz_p D cy ld ad am Fa Ga Ra Sa [.ref am]) (mz_j D cy ad am Fa Ga Ra Sa (fun r => (0 ≤ r.toInt → gs.toInt + (-1) = 0 ∧ 1 ≤ r.toInt) ∧ (-1) ≤ r.toInt ∧ r.toInt ≤ 9)) 0 0 (mz_W ad am) := by
  refine mz_met (y := yX13_partAt) (cc := cX13_partAt) (maxL := 3) (ret := (some .int)) (av := [.ref am]) _ (by decide) (Nat.le_of_ble_eq_true rfl) ?_
  intro p e s m args below meth c hx hb hr hml hts htl hown hlocks hK H locs hM hS ls hl
  have hown : s.vm.findClass RX13 = some m.cls := hown
  have hl : lv_has ls 3 [(0, .ref am)] := hl
  have hq_gs := tk_rng gs
  have hr_gs : 0 ≤ gs.toInt ∧ gs.toInt ≤ 3 := hIF.at hg_0
  refine lv_iconst (v := (-1)) hx hb dX13_partAt_0 (by decide) ?_
  refine lv_istore_n (lv' := [(1, .int (-1)), (0, .ref am)]) hx hb dX13_partAt_1 rfl hl (by decide) rfl (fun ls hl => ?_)
  refine lv_iconst (v := 0) hx hb dX13_partAt_2 (by decide) ?_
  refine lv_istore_n (lv' := [(2, .int 0), (1, .int (-1)), (0, .ref am)]) hx hb dX13_partAt_3 rfl hl (by decide) rfl (fun ls hl => ?_)
  have hl227 : ∀ (N_l227 : Nat) (v36 : Int32) (v37 : Int32) (H : Heap) (locs : List Loc), (v36.toInt ≤ 9) → (0 ≤ v36.toInt) → (v37.toInt ≤ 9) → ((-1) ≤ v37.toInt) → (mz_S D cy ad am Fa Ga Ra Sa H) → (va_S (mz_W ad am) s.heap H locs) → ((0 ≤ v37.toInt → gs.toInt + (-1) = 0 ∧ 1 ≤ v37.toInt)) → ((-1) * v36.toInt + 9 < (N_l227 : Int)) → ∀ ls : Array Slot, lv_has ls 3 [(2, .int v36), (1, .int v37), (0, .ref am)] → W p l e ({ frames := 4, cells := 0, slots := 0, locals := 210 }) s m args below meth c H locs 0 0 (MQ below (mz_j D cy ad am Fa Ga Ra Sa (fun r => (0 ≤ r.toInt → gs.toInt + (-1) = 0 ∧ 1 ≤ r.toInt) ∧ (-1) ≤ r.toInt ∧ r.toInt ≤ 9)) args s 0 0 (mz_W ad am)) (F0 m 4 ls []) := by
    intro N_l227
    induction N_l227 with
    | zero => intro v36 v37 H locs hq0_l227 hq1_l227 hq2_l227 hq3_l227 hM hS hc0_l227 hm_l227 ls hl; exfalso; omega
    | succ N_l227 ih_l227 =>
      intro v36 v37 H locs hq0_l227 hq1_l227 hq2_l227 hq3_l227 hM hS hc0_l227 hm_l227 ls hl
      refine lv_iload_n hx hb dX13_partAt_4 rfl (lv_at hl 0 rfl) ?_
      refine lv_bipush (v := 9) hx hb dX13_partAt_5 (by decide) ?_
      refine lv_icmp_ge (tgt := 37) hx hb dX13_partAt_7 (by decide) (fun c9 => ?_) (fun c9 => ?_)
      · have hc228 : 9 ≤ v36.toInt := (fi_le (show (9 : Int32).toInt = 9 by decide) rfl).mp c9
        refine lv_iload_n hx hb dX13_partAt_37 rfl (lv_at hl 1 rfl) ?_
        exact mz_jret (v := v37) hx hb hr rfl hlocks ⟨(by omega), (by omega), (by omega)⟩ hM hS dX13_partAt_38
      · have hc228 : ¬ (9 ≤ v36.toInt) := fun h9 => c9 ((fi_le (show (9 : Int32).toInt = 9 by decide) rfl).mpr h9)
        refine lv_aload_n hx hb dX13_partAt_10 rfl (lv_at hl 2 rfl) ?_
        refine lv_aload_n hx hb dX13_partAt_11 rfl (lv_at hl 2 rfl) ?_
        refine mz_getR hx hb htl hown hK hM 31 (Nat.le_of_ble_eq_true rfl) (Nat.le_of_ble_eq_true rfl) (htl _ mw_212) (fun _ h9 => h9) dX13_partAt_12 ?_
        refine lv_iload_n hx hb dX13_partAt_15 rfl (lv_at hl 0 rfl) ?_
        refine mz_lald hx hb hK hM 31 (Nat.le_of_ble_eq_true rfl) rfl (nn := 9) rfl rfl (by omega) (by omega) dX13_partAt_16 (fun w243 _ => ?_)
        obtain ⟨w245, hf244⟩ : ∃ z : Int64, Ga 17 = z := ⟨_, rfl⟩
        have hq_w245 := tk_rngL w245
        refine mz_Vj (As := [.long w243]) (rest := []) ⟨hx, hb, hml, hown, hts⟩ hK hM hS (k_X13_isWord l D cy ld ad am hD _ _ _ _ w243 gs w245 hIF hIG hIR hg_0 hf244) ⟨callB_of 1 hts (wl_in mw_709) rfl rfl rfl (htl _ mw_5) (htl _ mw_706) hd_yX13_isWord ⟨(Nat.le_of_ble_eq_true rfl), (Nat.le_of_ble_eq_true rfl)⟩, htl _ mw_707, htl _ mw_708⟩ rfl hl.1 rfl (Nat.le_of_ble_eq_true rfl) dX13_partAt_17 ⟨(Nat.le_of_ble_eq_true rfl), (Nat.le_of_ble_eq_true rfl)⟩ (fun v246 H locs hpo hM hS => ?_)
        obtain ⟨hpo247, hpo248, hpo249, hpo250, hpo251⟩ := hpo
        have hq_v246 := tk_rng v246
        refine lv_if_eq (tgt := 29) hx hb dX13_partAt_20 (by decide) (fun c9 => ?_) (fun c9 => ?_)
        · have hc253 : v246.toInt = 0 := (fi_eq rfl (show (0 : Int32).toInt = 0 by decide)).mp c9
          refine lv_iload_n hx hb dX13_partAt_29 rfl (lv_at hl 1 rfl) ?_
          refine lv_istore_n (lv' := [(1, .int v37), (2, .int v36), (0, .ref am)]) hx hb dX13_partAt_30 rfl hl (by decide) rfl (fun ls hl => ?_)
          obtain ⟨v254, h_v254, e_v254⟩ := tk_inc v36 1 (by decide) (by omega) (by omega)
          refine lv_iinc (v := v254) (lv' := [(2, .int v254), (1, .int v37), (0, .ref am)]) hx hb dX13_partAt_31 hl (k := 1) rfl e_v254 (by decide) rfl (fun ls hl => ?_)
          refine lv_goto (tgt := 4) hx hb dX13_partAt_34 (by decide) ?_
          exact ih_l227 v254 v37 _ _ (by omega) (by omega) (by omega) (by omega) hM hS (by omega) (by omega) _ (lv_sub hl [0, 1, 2] rfl)
        · have hc253 : ¬ (v246.toInt = 0) := fun h9 => c9 ((fi_eq rfl (show (0 : Int32).toInt = 0 by decide)).mpr h9)
          have hwk_255 : (-1) * w243.toInt + w245.toInt = 0 ∧ gs.toInt + (-1) = 0 := by omega
          refine lv_iload_n hx hb dX13_partAt_23 rfl (lv_at hl 0 rfl) ?_
          refine lv_iconst (v := 1) hx hb dX13_partAt_24 (by decide) ?_
          refine lv_iadd hx hb dX13_partAt_25 ?_
          refine tk_add rfl (show (1 : Int32).toInt = 1 by decide) (by omega) (by omega) (fun v256 h_v256 => ?_)
          refine lv_goto (tgt := 30) hx hb dX13_partAt_26 (by decide) ?_
          refine lv_istore_n (lv' := [(1, .int v256), (2, .int v36), (0, .ref am)]) hx hb dX13_partAt_30 rfl hl (by decide) rfl (fun ls hl => ?_)
          obtain ⟨v257, h_v257, e_v257⟩ := tk_inc v36 1 (by decide) (by omega) (by omega)
          refine lv_iinc (v := v257) (lv' := [(2, .int v257), (1, .int v256), (0, .ref am)]) hx hb dX13_partAt_31 hl (k := 1) rfl e_v257 (by decide) rfl (fun ls hl => ?_)
          refine lv_goto (tgt := 4) hx hb dX13_partAt_34 (by decide) ?_
          exact ih_l227 v257 v256 _ _ (by omega) (by omega) (by omega) (by omega) hM hS (by omega) (by omega) _ (lv_sub hl [0, 1, 2] rfl)
  have hk_0 : (0 : Int32).toInt = 0 := by decide
  have hk_m1 : ((-1) : Int32).toInt = (-1) := by decide
  exact hl227 10 0 (-1) _ _ (by omega) (by omega) (by omega) (by omega) hM hS (by omega) (by omega) _ (lv_sub hl [0, 1, 2] rfl)
end
section
theorem dX13_orderPartAt_0 : decode cX13_orderPartAt 0 = .ok (.iconst (-1), 1) := by decide +kernel
theorem dX13_orderPartAt_1 : decode cX13_orderPartAt 1 = .ok (.istore_n 1, 1) := by decide +kernel
theorem dX13_orderPartAt_2 : decode cX13_orderPartAt 2 = .ok (.iconst 0, 1) := by decide +kernel
theorem dX13_orderPartAt_3 : decode cX13_orderPartAt 3 = .ok (.istore_n 2, 1) := by decide +kernel
theorem dX13_orderPartAt_4 : decode cX13_orderPartAt 4 = .ok (.iload_n 2, 1) := by decide +kernel
theorem dX13_orderPartAt_5 : decode cX13_orderPartAt 5 = .ok (.bipush 7, 2) := by decide +kernel
theorem dX13_orderPartAt_7 : decode cX13_orderPartAt 7 = .ok (.if_icmp .ge 30, 3) := by decide +kernel
theorem dX13_orderPartAt_37 : decode cX13_orderPartAt 37 = .ok (.iload_n 1, 1) := by decide +kernel
theorem dX13_orderPartAt_38 : decode cX13_orderPartAt 38 = .ok (.ireturn, 1) := by decide +kernel
theorem dX13_orderPartAt_10 : decode cX13_orderPartAt 10 = .ok (.aload_n 0, 1) := by decide +kernel
theorem dX13_orderPartAt_11 : decode cX13_orderPartAt 11 = .ok (.aload_n 0, 1) := by decide +kernel
theorem dX13_orderPartAt_12 : decode cX13_orderPartAt 12 = .ok (.getfield 87, 3) := by decide +kernel
theorem dX13_orderPartAt_15 : decode cX13_orderPartAt 15 = .ok (.iload_n 2, 1) := by decide +kernel
theorem dX13_orderPartAt_16 : decode cX13_orderPartAt 16 = .ok (.laload, 1) := by decide +kernel
theorem dX13_orderPartAt_17 : decode cX13_orderPartAt 17 = .ok (.invokevirtual 296, 3) := by decide +kernel
theorem dX13_orderPartAt_20 : decode cX13_orderPartAt 20 = .ok (.ifCond .eq 9, 3) := by decide +kernel
theorem dX13_orderPartAt_29 : decode cX13_orderPartAt 29 = .ok (.iload_n 1, 1) := by decide +kernel
theorem dX13_orderPartAt_30 : decode cX13_orderPartAt 30 = .ok (.istore_n 1, 1) := by decide +kernel
theorem dX13_orderPartAt_31 : decode cX13_orderPartAt 31 = .ok (.iinc 2 1, 3) := by decide +kernel
theorem dX13_orderPartAt_34 : decode cX13_orderPartAt 34 = .ok (.goto (-30), 3) := by decide +kernel
theorem dX13_orderPartAt_23 : decode cX13_orderPartAt 23 = .ok (.iload_n 2, 1) := by decide +kernel
theorem dX13_orderPartAt_24 : decode cX13_orderPartAt 24 = .ok (.iconst 1, 1) := by decide +kernel
theorem dX13_orderPartAt_25 : decode cX13_orderPartAt 25 = .ok (.iadd, 1) := by decide +kernel
theorem dX13_orderPartAt_26 : decode cX13_orderPartAt 26 = .ok (.goto 4, 3) := by decide +kernel
set_option maxHeartbeats 4000000 in
set_option maxRecDepth 100000 in
theorem k_X13_orderPartAt (l : Launch) (D : va_G) (cy : Nat → ClassId) (ld ad : Nat → Nat) (am : Nat) (hD : mz_D ad am) (Fa : Nat → Int32) (Ga : Nat → Int64) (Ra : Nat → Nat → Int32) (Sa : Nat → Nat → Int64) (gs : Int32) (hIF : mz_IF false Fa) (hIG : mz_IG Ga) (hIR : mz_IR [] true Ra) (hg_0 : Fa 16 = gs) : Met l yX13_orderPartAt (wl yX13_orderPartAt cX13_orderPartAt 3 (some .int)) ({ frames := 4, cells := 0, slots := 0, locals := 210 }) (mz_p D cy ld ad am Fa Ga Ra Sa [.ref am]) (mz_j D cy ad am Fa Ga Ra Sa (fun r => (0 ≤ r.toInt → gs.toInt + (-1) = 0 ∧ 1 ≤ r.toInt) ∧ (-1) ≤ r.toInt ∧ r.toInt ≤ 7)) 0 0 (mz_W ad am) := by
  refine mz_met (y := yX13_orderPartAt) (cc := cX13_orderPartAt) (maxL := 3) (ret := (some .int)) (av := [.ref am]) _ (by decide) (Nat.le_of_ble_eq_true rfl) ?_
  intro p e s m args below meth c hx hb hr hml hts htl hown hlocks hK H locs hM hS ls hl
  have hown : s.vm.findClass RX13 = some m.cls := hown
  have hl : lv_has ls 3 [(0, .ref am)] := hl
  have hq_gs := tk_rng gs
  have hr_gs : 0 ≤ gs.toInt ∧ gs.toInt ≤ 3 := hIF.at hg_0
  refine lv_iconst (v := (-1)) hx hb dX13_orderPartAt_0 (by decide) ?_
  refine lv_istore_n (lv' := [(1, .int (-1)), (0, .ref am)]) hx hb dX13_orderPartAt_1 rfl hl (by decide) rfl (fun ls hl => ?_)
  refine lv_iconst (v := 0) hx hb dX13_orderPartAt_2 (by decide) ?_
  refine lv_istore_n (lv' := [(2, .int 0), (1, .int (-1)), (0, .ref am)]) hx hb dX13_orderPartAt_3 rfl hl (by decide) rfl (fun ls hl => ?_)
  have hl227 : ∀ (N_l227 : Nat) (v36 : Int32) (v37 : Int32) (H : Heap) (locs : List Loc), (v36.toInt ≤ 7) → (0 ≤ v36.toInt) → (v37.toInt ≤ 7) → ((-1) ≤ v37.toInt) → (mz_S D cy ad am Fa Ga Ra Sa H) → (va_S (mz_W ad am) s.heap H locs) → ((0 ≤ v37.toInt → gs.toInt + (-1) = 0 ∧ 1 ≤ v37.toInt)) → ((-1) * v36.toInt + 7 < (N_l227 : Int)) → ∀ ls : Array Slot, lv_has ls 3 [(2, .int v36), (1, .int v37), (0, .ref am)] → W p l e ({ frames := 4, cells := 0, slots := 0, locals := 210 }) s m args below meth c H locs 0 0 (MQ below (mz_j D cy ad am Fa Ga Ra Sa (fun r => (0 ≤ r.toInt → gs.toInt + (-1) = 0 ∧ 1 ≤ r.toInt) ∧ (-1) ≤ r.toInt ∧ r.toInt ≤ 7)) args s 0 0 (mz_W ad am)) (F0 m 4 ls []) := by
    intro N_l227
    induction N_l227 with
    | zero => intro v36 v37 H locs hq0_l227 hq1_l227 hq2_l227 hq3_l227 hM hS hc0_l227 hm_l227 ls hl; exfalso; omega
    | succ N_l227 ih_l227 =>
      intro v36 v37 H locs hq0_l227 hq1_l227 hq2_l227 hq3_l227 hM hS hc0_l227 hm_l227 ls hl
      refine lv_iload_n hx hb dX13_orderPartAt_4 rfl (lv_at hl 0 rfl) ?_
      refine lv_bipush (v := 7) hx hb dX13_orderPartAt_5 (by decide) ?_
      refine lv_icmp_ge (tgt := 37) hx hb dX13_orderPartAt_7 (by decide) (fun c9 => ?_) (fun c9 => ?_)
      · have hc228 : 7 ≤ v36.toInt := (fi_le (show (7 : Int32).toInt = 7 by decide) rfl).mp c9
        refine lv_iload_n hx hb dX13_orderPartAt_37 rfl (lv_at hl 1 rfl) ?_
        exact mz_jret (v := v37) hx hb hr rfl hlocks ⟨(by omega), (by omega), (by omega)⟩ hM hS dX13_orderPartAt_38
      · have hc228 : ¬ (7 ≤ v36.toInt) := fun h9 => c9 ((fi_le (show (7 : Int32).toInt = 7 by decide) rfl).mpr h9)
        refine lv_aload_n hx hb dX13_orderPartAt_10 rfl (lv_at hl 2 rfl) ?_
        refine lv_aload_n hx hb dX13_orderPartAt_11 rfl (lv_at hl 2 rfl) ?_
        refine mz_getR hx hb htl hown hK hM 32 (Nat.le_of_ble_eq_true rfl) (Nat.le_of_ble_eq_true rfl) (htl _ mw_217) (fun _ h9 => h9) dX13_orderPartAt_12 ?_
        refine lv_iload_n hx hb dX13_orderPartAt_15 rfl (lv_at hl 0 rfl) ?_
        refine mz_lald hx hb hK hM 32 (Nat.le_of_ble_eq_true rfl) rfl (nn := 7) rfl rfl (by omega) (by omega) dX13_orderPartAt_16 (fun w243 _ => ?_)
        obtain ⟨w245, hf244⟩ : ∃ z : Int64, Ga 17 = z := ⟨_, rfl⟩
        have hq_w245 := tk_rngL w245
        refine mz_Vj (As := [.long w243]) (rest := []) ⟨hx, hb, hml, hown, hts⟩ hK hM hS (k_X13_isWord l D cy ld ad am hD _ _ _ _ w243 gs w245 hIF hIG hIR hg_0 hf244) ⟨callB_of 1 hts (wl_in mw_709) rfl rfl rfl (htl _ mw_5) (htl _ mw_706) hd_yX13_isWord ⟨(Nat.le_of_ble_eq_true rfl), (Nat.le_of_ble_eq_true rfl)⟩, htl _ mw_707, htl _ mw_708⟩ rfl hl.1 rfl (Nat.le_of_ble_eq_true rfl) dX13_orderPartAt_17 ⟨(Nat.le_of_ble_eq_true rfl), (Nat.le_of_ble_eq_true rfl)⟩ (fun v246 H locs hpo hM hS => ?_)
        obtain ⟨hpo247, hpo248, hpo249, hpo250, hpo251⟩ := hpo
        have hq_v246 := tk_rng v246
        refine lv_if_eq (tgt := 29) hx hb dX13_orderPartAt_20 (by decide) (fun c9 => ?_) (fun c9 => ?_)
        · have hc253 : v246.toInt = 0 := (fi_eq rfl (show (0 : Int32).toInt = 0 by decide)).mp c9
          refine lv_iload_n hx hb dX13_orderPartAt_29 rfl (lv_at hl 1 rfl) ?_
          refine lv_istore_n (lv' := [(1, .int v37), (2, .int v36), (0, .ref am)]) hx hb dX13_orderPartAt_30 rfl hl (by decide) rfl (fun ls hl => ?_)
          obtain ⟨v254, h_v254, e_v254⟩ := tk_inc v36 1 (by decide) (by omega) (by omega)
          refine lv_iinc (v := v254) (lv' := [(2, .int v254), (1, .int v37), (0, .ref am)]) hx hb dX13_orderPartAt_31 hl (k := 1) rfl e_v254 (by decide) rfl (fun ls hl => ?_)
          refine lv_goto (tgt := 4) hx hb dX13_orderPartAt_34 (by decide) ?_
          exact ih_l227 v254 v37 _ _ (by omega) (by omega) (by omega) (by omega) hM hS (by omega) (by omega) _ (lv_sub hl [0, 1, 2] rfl)
        · have hc253 : ¬ (v246.toInt = 0) := fun h9 => c9 ((fi_eq rfl (show (0 : Int32).toInt = 0 by decide)).mpr h9)
          have hwk_255 : (-1) * w243.toInt + w245.toInt = 0 ∧ gs.toInt + (-1) = 0 := by omega
          refine lv_iload_n hx hb dX13_orderPartAt_23 rfl (lv_at hl 0 rfl) ?_
          refine lv_iconst (v := 1) hx hb dX13_orderPartAt_24 (by decide) ?_
          refine lv_iadd hx hb dX13_orderPartAt_25 ?_
          refine tk_add rfl (show (1 : Int32).toInt = 1 by decide) (by omega) (by omega) (fun v256 h_v256 => ?_)
          refine lv_goto (tgt := 30) hx hb dX13_orderPartAt_26 (by decide) ?_
          refine lv_istore_n (lv' := [(1, .int v256), (2, .int v36), (0, .ref am)]) hx hb dX13_orderPartAt_30 rfl hl (by decide) rfl (fun ls hl => ?_)
          obtain ⟨v257, h_v257, e_v257⟩ := tk_inc v36 1 (by decide) (by omega) (by omega)
          refine lv_iinc (v := v257) (lv' := [(2, .int v257), (1, .int v256), (0, .ref am)]) hx hb dX13_orderPartAt_31 hl (k := 1) rfl e_v257 (by decide) rfl (fun ls hl => ?_)
          refine lv_goto (tgt := 4) hx hb dX13_orderPartAt_34 (by decide) ?_
          exact ih_l227 v257 v256 _ _ (by omega) (by omega) (by omega) (by omega) hM hS (by omega) (by omega) _ (lv_sub hl [0, 1, 2] rfl)
  have hk_0 : (0 : Int32).toInt = 0 := by decide
  have hk_m1 : ((-1) : Int32).toInt = (-1) := by decide
  exact hl227 8 0 (-1) _ _ (by omega) (by omega) (by omega) (by omega) hM hS (by omega) (by omega) _ (lv_sub hl [0, 1, 2] rfl)
end
section
theorem dX13_leaf_0 : decode cX13_leaf 0 = .ok (.aload_n 0, 1) := by decide +kernel
theorem dX13_leaf_1 : decode cX13_leaf 1 = .ok (.iload_n 1, 1) := by decide +kernel
theorem dX13_leaf_2 : decode cX13_leaf 2 = .ok (.ifCond .eq 16, 3) := by decide +kernel
theorem dX13_leaf_18 : decode cX13_leaf 18 = .ok (.iconst 0, 1) := by decide +kernel
theorem dX13_leaf_19 : decode cX13_leaf 19 = .ok (.invokevirtual 271, 3) := by decide +kernel
theorem dX13_leaf_22 : decode cX13_leaf 22 = .ok (.aload_n 0, 1) := by decide +kernel
theorem dX13_leaf_23 : decode cX13_leaf 23 = .ok (.getfield 236, 3) := by decide +kernel
theorem dX13_leaf_26 : decode cX13_leaf 26 = .ok (.ifCond .ne 19, 3) := by decide +kernel
theorem dX13_leaf_45 : decode cX13_leaf 45 = .ok (.return_, 1) := by decide +kernel
theorem dX13_leaf_5 : decode cX13_leaf 5 = .ok (.aload_n 0, 1) := by decide +kernel
theorem dX13_leaf_6 : decode cX13_leaf 6 = .ok (.getfield 306, 3) := by decide +kernel
theorem dX13_leaf_9 : decode cX13_leaf 9 = .ok (.bipush 50, 2) := by decide +kernel
theorem dX13_leaf_11 : decode cX13_leaf 11 = .ok (.if_icmp .ge 7, 3) := by decide +kernel
theorem dX13_leaf_14 : decode cX13_leaf 14 = .ok (.iconst 1, 1) := by decide +kernel
theorem dX13_leaf_15 : decode cX13_leaf 15 = .ok (.goto 4, 3) := by decide +kernel
theorem dX13_leaf_29 : decode cX13_leaf 29 = .ok (.aload_n 0, 1) := by decide +kernel
theorem dX13_leaf_30 : decode cX13_leaf 30 = .ok (.iload_n 2, 1) := by decide +kernel
theorem dX13_leaf_31 : decode cX13_leaf 31 = .ok (.iload_n 3, 1) := by decide +kernel
theorem dX13_leaf_32 : decode cX13_leaf 32 = .ok (.invokevirtual 284, 3) := by decide +kernel
theorem dX13_leaf_35 : decode cX13_leaf 35 = .ok (.aload_n 0, 1) := by decide +kernel
theorem dX13_leaf_36 : decode cX13_leaf 36 = .ok (.dup, 1) := by decide +kernel
theorem dX13_leaf_37 : decode cX13_leaf 37 = .ok (.getfield 306, 3) := by decide +kernel
theorem dX13_leaf_40 : decode cX13_leaf 40 = .ok (.iconst 1, 1) := by decide +kernel
theorem dX13_leaf_41 : decode cX13_leaf 41 = .ok (.iadd, 1) := by decide +kernel
theorem dX13_leaf_42 : decode cX13_leaf 42 = .ok (.putfield 306, 3) := by decide +kernel
set_option maxHeartbeats 4000000 in
set_option maxRecDepth 100000 in
theorem k_X13_leaf (l : Launch) (D : va_G) (cy : Nat → ClassId) (ld ad : Nat → Nat) (am : Nat) (hD : mz_D ad am) (Fa : Nat → Int32) (Ga : Nat → Int64) (Ra : Nat → Nat → Int32) (Sa : Nat → Nat → Int64) (p1 : Int32) (p2 : Int32) (p3 : Int32) (gf : Int32) (gt : Int32) (gs : Int32) (gp : Int32) (gw : Int64) (gb : Int32) (gc : Int32) (gd : Int32) (zs : Nat) (hIF : mz_IF false Fa) (hIG : mz_IG Ga) (hIR : mz_IR [] true Ra) (hg_0 : Fa 14 = gf) (hg_1 : Fa 15 = gt) (hg_2 : Fa 16 = gs) (hg_3 : Fa 13 = gp) (hg_4 : Ga 17 = gw) (hg_5 : Fa 19 = gb) (hg_6 : Fa 23 = gc) (hg_7 : Fa 29 = gd) (hp_0 : 0 ≤ p1.toInt) (hp_1 : p1.toInt ≤ 1) (hp_2 : 0 ≤ p2.toInt) (hp_3 : p2.toInt ≤ 9) (hp_4 : 0 ≤ (-1) * gf.toInt + gt.toInt) (hp_5 : 0 ≤ gp.toInt + (-1) * gt.toInt) (hp_6 : (1 ≤ gs.toInt → 0 ≤ (-1) * gf.toInt + gt.toInt + (-1))) (hp_7 : (27 ≤ gw.toInt → 1 ≤ gs.toInt → gs.toInt ≤ 1 → 0 ≤ (-1) * gf.toInt + gt.toInt + (-2))) (hp_8 : 0 ≤ (-1) * gc.toInt + (-1) * gd.toInt + gf.toInt) (hp_9 : gb.toInt ≤ 0) (hp_10 : (1 ≤ p1.toInt → 1 ≤ gs.toInt)) (hp_11 : (6 ≤ p2.toInt → 0 ≤ p3.toInt ∧ p3.toInt ≤ 7)) (hx_0 : PI (Ra 24) (Ra 25) (Ra 27) (Ra 28) zs gc.toInt.toNat gd.toInt.toNat 0) : Met l yX13_leaf (wl yX13_leaf cX13_leaf 4 none) ({ frames := 6, cells := 0, slots := 0, locals := 350 }) (mz_p D cy ld ad am Fa Ga Ra Sa [.ref am, .int p1, .int p2, .int p3]) (mz_w D cy ad am (fun F G R S => mz_IF false F ∧ mz_IG G ∧ mz_IR [] true R ∧ (∀ k : Nat, k ∉ ([14, 15, 16, 18, 19, 23, 26] : List Nat) → F k = Fa k) ∧ (∀ k : Nat, k ∉ ([24, 25] : List Nat) → R k = Ra k) ∧ (∀ k : Nat, k ∉ ([17] : List Nat) → G k = Ga k) ∧ 0 ≤ (-1) * (F 14).toInt + (F 15).toInt ∧ 0 ≤ gp.toInt + (-1) * (F 15).toInt ∧ (1 ≤ (F 16).toInt → 0 ≤ (-1) * (F 14).toInt + (F 15).toInt + (-1)) ∧ (27 ≤ (G 17).toInt → 1 ≤ (F 16).toInt → (F 16).toInt ≤ 1 → 0 ≤ (-1) * (F 14).toInt + (F 15).toInt + (-2)) ∧ 0 ≤ (-1) * gf.toInt + (F 14).toInt ∧ 0 ≤ (-1) * gd.toInt + (-1) * (F 23).toInt + (F 14).toInt ∧ 0 ≤ (-1) * gc.toInt + (F 23).toInt ∧ ((F 19).toInt ≤ 0 → 0 ≤ (-1) * gf.toInt + (F 14).toInt + (-1) ∧ (-1) * gc.toInt + (F 23).toInt + (-1) = 0) ∧ ((F 19).toInt = 0 → PI (R 24) (R 25) (R 27) (R 28) zs (F 23).toInt.toNat (F 29).toInt.toNat 1 ∧ low zs (Ra 24) (R 24) ∧ low zs (Ra 25) (R 25) ∧ R 24 = upd (Ra 24) gc.toInt.toNat p2))) 0 0 (mz_W ad am) := by
  refine mz_met (y := yX13_leaf) (cc := cX13_leaf) (maxL := 4) (ret := none) (av := [.ref am, .int p1, .int p2, .int p3]) _ (by decide) (Nat.le_of_ble_eq_true rfl) ?_
  intro p e s m args below meth c hx hb hr hml hts htl hown hlocks hK H locs hM hS ls hl
  have hown : s.vm.findClass RX13 = some m.cls := hown
  have hl : lv_has ls 4 [(0, .ref am), (1, .int p1), (2, .int p2), (3, .int p3)] := hl
  have hr_p1 := tk_rng p1
  have hr_p2 := tk_rng p2
  have hr_p3 := tk_rng p3
  have hq_gf := tk_rng gf
  have hq_gt := tk_rng gt
  have hq_gs := tk_rng gs
  have hq_gp := tk_rng gp
  have hq_gw := tk_rngL gw
  have hq_gb := tk_rng gb
  have hq_gc := tk_rng gc
  have hq_gd := tk_rng gd
  have hr_gf : 0 ≤ gf.toInt ∧ gf.toInt ≤ 400 := hIF.at hg_0
  have hr_gt : 0 ≤ gt.toInt ∧ gt.toInt ≤ 400 := hIF.at hg_1
  have hr_gs : 0 ≤ gs.toInt ∧ gs.toInt ≤ 3 := hIF.at hg_2
  have hr_gp : 0 ≤ gp.toInt ∧ gp.toInt ≤ 400 := hIF.at hg_3
  have hr_gb : 0 ≤ gb.toInt ∧ gb.toInt ≤ 1 := hIF.at hg_5
  have hr_gc : 0 ≤ gc.toInt ∧ gc.toInt ≤ 400 := hIF.at hg_6
  have hr_gd : 0 ≤ gd.toInt ∧ gd.toInt ≤ 400 := hIF.at hg_7
  have hPI := hx_0
  have hz0 := hPI.1
  have hLo := And.intro (low.refl zs (Ra 24)) (low.refl zs (Ra 25))
  refine lv_aload_n hx hb dX13_leaf_0 rfl (lv_at hl 0 rfl) ?_
  refine lv_iload_n hx hb dX13_leaf_1 rfl (lv_at hl 1 rfl) ?_
  refine lv_if_eq (tgt := 18) hx hb dX13_leaf_2 (by decide) (fun c9 => ?_) (fun c9 => ?_)
  · have hc1 : p1.toInt = 0 := (fi_eq rfl (show (0 : Int32).toInt = 0 by decide)).mp c9
    refine lv_iconst (v := 0) hx hb dX13_leaf_18 (by decide) ?_
    have hk_0 : (0 : Int32).toInt = 0 := by decide
    refine mz_Vv (As := [.int 0]) (rest := []) ⟨hx, hb, hml, hown, hts⟩ hK hM hS (k_X13_must l D cy ld ad am hD _ _ _ _ 0 gf gt gs gp gw gb hIF hIG hIR hg_0 hg_1 hg_2 hg_3 hg_4 hg_5 (by omega) (by omega) (by omega) (by omega) (by omega) (by omega)) ⟨callB_of 1 hts (wl_in mw_713) rfl rfl rfl (htl _ mw_5) (htl _ mw_710) hd_yX13_must ⟨(Nat.le_of_ble_eq_true rfl), (Nat.le_of_ble_eq_true rfl)⟩, htl _ mw_711, htl _ mw_712⟩ rfl hl.1 rfl (Nat.le_of_ble_eq_true rfl) dX13_leaf_19 ⟨(Nat.le_of_ble_eq_true rfl), (Nat.le_of_ble_eq_true rfl)⟩ (fun H locs F G R S hpo hM hS => ?_)
    obtain ⟨hIF, hIG, hIR, hfr9, hrr9, hgr9, hpo2, hpo3, hpo4, hpo5, hpo6, hpo10, hpo11, hpo12⟩ := hpo
    have hFF := mz_fr (K := [14, 15, 16, 18, 19, 23, 26]) (Fa := Fa) hfr9 (fun _ _ => rfl) (by decide)
    have hRR := mz_fr (K := [24, 25]) (Fa := Ra) hrr9 (fun _ _ => rfl) (by decide)
    have hGG := mz_fr (K := [17]) (Fa := Ga) hgr9 (fun _ _ => rfl) (by decide)
    have hg_3 := (hfr9 13 (by decide)).trans hg_3
    have hg_6 := (hfr9 23 (by decide)).trans hg_6
    have hg_7 := (hfr9 29 (by decide)).trans hg_7
    obtain ⟨v15, hf14⟩ : ∃ z : Int32, F 14 = z := ⟨_, rfl⟩
    have hq_v15 := tk_rng v15
    rw [hf14] at hpo2 hpo4 hpo5 hpo6 hpo11
    have hr_v15 : 0 ≤ v15.toInt ∧ v15.toInt ≤ 400 := hIF.at hf14
    obtain ⟨v17, hf16⟩ : ∃ z : Int32, F 15 = z := ⟨_, rfl⟩
    have hq_v17 := tk_rng v17
    rw [hf16] at hpo2 hpo3 hpo4 hpo5
    have hr_v17 : 0 ≤ v17.toInt ∧ v17.toInt ≤ 400 := hIF.at hf16
    obtain ⟨v19, hf18⟩ : ∃ z : Int32, F 16 = z := ⟨_, rfl⟩
    have hq_v19 := tk_rng v19
    rw [hf18] at hpo4 hpo5
    have hr_v19 : 0 ≤ v19.toInt ∧ v19.toInt ≤ 3 := hIF.at hf18
    obtain ⟨w21, hf20⟩ : ∃ z : Int64, G 17 = z := ⟨_, rfl⟩
    have hq_w21 := tk_rngL w21
    rw [hf20] at hpo5
    obtain ⟨v23, hf22⟩ : ∃ z : Int32, F 19 = z := ⟨_, rfl⟩
    have hq_v23 := tk_rng v23
    rw [hf22] at hpo10 hpo11 hpo12
    have hr_v23 : 0 ≤ v23.toInt ∧ v23.toInt ≤ 1 := hIF.at hf22
    have hPI := hPI.to (hrr9 24 (by decide)) (hrr9 25 (by decide)) (hrr9 27 (by decide)) (hrr9 28 (by decide)) rfl rfl
    have hLo := And.intro (hLo.1.to (hrr9 24 (by decide))) (hLo.2.to (hrr9 25 (by decide)))
    have hR24 : R 24 = Ra 24 := hrr9 24 (by decide)
    refine lv_aload_n hx hb dX13_leaf_22 rfl (lv_at hl 0 rfl) ?_
    refine mz_getI hx hb htl hown hK hM 19 (Nat.le_of_ble_eq_true rfl) rfl (htl _ mw_668) (fun _ h9 => h9) dX13_leaf_23 (fun v9 e9 => ?_)
    refine fx_ti (v := v23) (e9.symm.trans hf22) ?_
    refine lv_if_ne (tgt := 45) hx hb dX13_leaf_26 (by decide) (fun c9 => ?_) (fun c9 => ?_)
    · have hc24 : ¬ (v23.toInt = 0) := fun h9 => c9 ((fi_eq rfl (show (0 : Int32).toInt = 0 by decide)).mpr h9)
      exact mz_vret hx hb hr hlocks ⟨hIF, hIG, hIR, hFF, hRR, hGG, (by rw [hf14, hf16]; omega), (by rw [hf16]; omega), (by rw [hf14, hf16, hf18]; omega), (by rw [hf14, hf16, hf18, hf20]; omega), (by rw [hf14]; omega), (by rw [hf14, hg_6]; omega), (by rw [hg_6]; omega), (by rw [hf14, hf22, hg_6]; omega), (by rw [hf22]; exact fun h9 => absurd h9 (by omega))⟩ hM hS dX13_leaf_45
    · have hc24 : v23.toInt = 0 := (fi_eq rfl (show (0 : Int32).toInt = 0 by decide)).mp c9
      have hwk_25 : 0 ≤ (-1) * gt.toInt + v15.toInt ∧ 0 ≤ (-1) := by omega
      exfalso
      omega
  · have hc1 : ¬ (p1.toInt = 0) := fun h9 => c9 ((fi_eq rfl (show (0 : Int32).toInt = 0 by decide)).mpr h9)
    have hwk_26 : 1 ≤ gs.toInt := by omega
    have hwk_27 : 0 ≤ (-1) * gf.toInt + gt.toInt + (-1) := by omega
    refine lv_aload_n hx hb dX13_leaf_5 rfl (lv_at hl 0 rfl) ?_
    refine mz_getI hx hb htl hown hK hM 26 (Nat.le_of_ble_eq_true rfl) rfl (htl _ mw_676) (fun _ h9 => h9) dX13_leaf_6 (fun v29 hf28 => ?_)
    have hq_v29 := tk_rng v29
    have hr_v29 : 0 ≤ v29.toInt ∧ v29.toInt ≤ 50 := hIF.at hf28
    refine lv_bipush (v := 50) hx hb dX13_leaf_9 (by decide) ?_
    refine lv_icmp_ge (tgt := 18) hx hb dX13_leaf_11 (by decide) (fun c9 => ?_) (fun c9 => ?_)
    · have hc30 : 50 ≤ v29.toInt := (fi_le (show (50 : Int32).toInt = 50 by decide) rfl).mp c9
      refine lv_iconst (v := 0) hx hb dX13_leaf_18 (by decide) ?_
      have hk_0 : (0 : Int32).toInt = 0 := by decide
      refine mz_Vv (As := [.int 0]) (rest := []) ⟨hx, hb, hml, hown, hts⟩ hK hM hS (k_X13_must l D cy ld ad am hD _ _ _ _ 0 gf gt gs gp gw gb hIF hIG hIR hg_0 hg_1 hg_2 hg_3 hg_4 hg_5 (by omega) (by omega) (by omega) (by omega) (by omega) (by omega)) ⟨callB_of 1 hts (wl_in mw_713) rfl rfl rfl (htl _ mw_5) (htl _ mw_710) hd_yX13_must ⟨(Nat.le_of_ble_eq_true rfl), (Nat.le_of_ble_eq_true rfl)⟩, htl _ mw_711, htl _ mw_712⟩ rfl hl.1 rfl (Nat.le_of_ble_eq_true rfl) dX13_leaf_19 ⟨(Nat.le_of_ble_eq_true rfl), (Nat.le_of_ble_eq_true rfl)⟩ (fun H locs F G R S hpo hM hS => ?_)
      obtain ⟨hIF, hIG, hIR, hfr9, hrr9, hgr9, hpo31, hpo32, hpo33, hpo34, hpo35, hpo36, hpo37, hpo38⟩ := hpo
      have hFF := mz_fr (K := [14, 15, 16, 18, 19, 23, 26]) (Fa := Fa) hfr9 (fun _ _ => rfl) (by decide)
      have hRR := mz_fr (K := [24, 25]) (Fa := Ra) hrr9 (fun _ _ => rfl) (by decide)
      have hGG := mz_fr (K := [17]) (Fa := Ga) hgr9 (fun _ _ => rfl) (by decide)
      have hg_3 := (hfr9 13 (by decide)).trans hg_3
      have hg_6 := (hfr9 23 (by decide)).trans hg_6
      have hg_7 := (hfr9 29 (by decide)).trans hg_7
      have hf28 := (hfr9 26 (by decide)).trans hf28
      obtain ⟨v41, hf40⟩ : ∃ z : Int32, F 14 = z := ⟨_, rfl⟩
      have hq_v41 := tk_rng v41
      rw [hf40] at hpo31 hpo33 hpo34 hpo35 hpo37
      have hr_v41 : 0 ≤ v41.toInt ∧ v41.toInt ≤ 400 := hIF.at hf40
      obtain ⟨v43, hf42⟩ : ∃ z : Int32, F 15 = z := ⟨_, rfl⟩
      have hq_v43 := tk_rng v43
      rw [hf42] at hpo31 hpo32 hpo33 hpo34
      have hr_v43 : 0 ≤ v43.toInt ∧ v43.toInt ≤ 400 := hIF.at hf42
      obtain ⟨v45, hf44⟩ : ∃ z : Int32, F 16 = z := ⟨_, rfl⟩
      have hq_v45 := tk_rng v45
      rw [hf44] at hpo33 hpo34
      have hr_v45 : 0 ≤ v45.toInt ∧ v45.toInt ≤ 3 := hIF.at hf44
      obtain ⟨w47, hf46⟩ : ∃ z : Int64, G 17 = z := ⟨_, rfl⟩
      have hq_w47 := tk_rngL w47
      rw [hf46] at hpo34
      obtain ⟨v49, hf48⟩ : ∃ z : Int32, F 19 = z := ⟨_, rfl⟩
      have hq_v49 := tk_rng v49
      rw [hf48] at hpo36 hpo37 hpo38
      have hr_v49 : 0 ≤ v49.toInt ∧ v49.toInt ≤ 1 := hIF.at hf48
      have hPI := hPI.to (hrr9 24 (by decide)) (hrr9 25 (by decide)) (hrr9 27 (by decide)) (hrr9 28 (by decide)) rfl rfl
      have hLo := And.intro (hLo.1.to (hrr9 24 (by decide))) (hLo.2.to (hrr9 25 (by decide)))
      have hR24 : R 24 = Ra 24 := hrr9 24 (by decide)
      refine lv_aload_n hx hb dX13_leaf_22 rfl (lv_at hl 0 rfl) ?_
      refine mz_getI hx hb htl hown hK hM 19 (Nat.le_of_ble_eq_true rfl) rfl (htl _ mw_668) (fun _ h9 => h9) dX13_leaf_23 (fun v9 e9 => ?_)
      refine fx_ti (v := v49) (e9.symm.trans hf48) ?_
      refine lv_if_ne (tgt := 45) hx hb dX13_leaf_26 (by decide) (fun c9 => ?_) (fun c9 => ?_)
      · have hc50 : ¬ (v49.toInt = 0) := fun h9 => c9 ((fi_eq rfl (show (0 : Int32).toInt = 0 by decide)).mpr h9)
        exact mz_vret hx hb hr hlocks ⟨hIF, hIG, hIR, hFF, hRR, hGG, (by rw [hf40, hf42]; omega), (by rw [hf42]; omega), (by rw [hf40, hf42, hf44]; omega), (by rw [hf40, hf42, hf44, hf46]; omega), (by rw [hf40]; omega), (by rw [hf40, hg_6]; omega), (by rw [hg_6]; omega), (by rw [hf40, hf48, hg_6]; omega), (by rw [hf48]; exact fun h9 => absurd h9 (by omega))⟩ hM hS dX13_leaf_45
      · have hc50 : v49.toInt = 0 := (fi_eq rfl (show (0 : Int32).toInt = 0 by decide)).mp c9
        have hwk_51 : 0 ≤ (-1) * gt.toInt + v41.toInt ∧ 0 ≤ (-1) := by omega
        exfalso
        omega
    · have hc30 : ¬ (50 ≤ v29.toInt) := fun h9 => c9 ((fi_le (show (50 : Int32).toInt = 50 by decide) rfl).mpr h9)
      refine lv_iconst (v := 1) hx hb dX13_leaf_14 (by decide) ?_
      refine lv_goto (tgt := 19) hx hb dX13_leaf_15 (by decide) ?_
      have hk_1 : (1 : Int32).toInt = 1 := by decide
      refine mz_Vv (As := [.int 1]) (rest := []) ⟨hx, hb, hml, hown, hts⟩ hK hM hS (k_X13_must l D cy ld ad am hD _ _ _ _ 1 gf gt gs gp gw gb hIF hIG hIR hg_0 hg_1 hg_2 hg_3 hg_4 hg_5 (by omega) (by omega) (by omega) (by omega) (by omega) (by omega)) ⟨callB_of 1 hts (wl_in mw_713) rfl rfl rfl (htl _ mw_5) (htl _ mw_710) hd_yX13_must ⟨(Nat.le_of_ble_eq_true rfl), (Nat.le_of_ble_eq_true rfl)⟩, htl _ mw_711, htl _ mw_712⟩ rfl hl.1 rfl (Nat.le_of_ble_eq_true rfl) dX13_leaf_19 ⟨(Nat.le_of_ble_eq_true rfl), (Nat.le_of_ble_eq_true rfl)⟩ (fun H locs F G R S hpo hM hS => ?_)
      obtain ⟨hIF, hIG, hIR, hfr9, hrr9, hgr9, hpo52, hpo53, hpo54, hpo55, hpo56, hpo57, hpo58, hpo59⟩ := hpo
      have hFF := mz_fr (K := [14, 15, 16, 18, 19, 23, 26]) (Fa := Fa) hfr9 (fun _ _ => rfl) (by decide)
      have hRR := mz_fr (K := [24, 25]) (Fa := Ra) hrr9 (fun _ _ => rfl) (by decide)
      have hGG := mz_fr (K := [17]) (Fa := Ga) hgr9 (fun _ _ => rfl) (by decide)
      have hg_3 := (hfr9 13 (by decide)).trans hg_3
      have hg_6 := (hfr9 23 (by decide)).trans hg_6
      have hg_7 := (hfr9 29 (by decide)).trans hg_7
      have hf28 := (hfr9 26 (by decide)).trans hf28
      obtain ⟨v62, hf61⟩ : ∃ z : Int32, F 14 = z := ⟨_, rfl⟩
      have hq_v62 := tk_rng v62
      rw [hf61] at hpo52 hpo54 hpo55 hpo56 hpo58
      have hr_v62 : 0 ≤ v62.toInt ∧ v62.toInt ≤ 400 := hIF.at hf61
      obtain ⟨v64, hf63⟩ : ∃ z : Int32, F 15 = z := ⟨_, rfl⟩
      have hq_v64 := tk_rng v64
      rw [hf63] at hpo52 hpo53 hpo54 hpo55
      have hr_v64 : 0 ≤ v64.toInt ∧ v64.toInt ≤ 400 := hIF.at hf63
      obtain ⟨v66, hf65⟩ : ∃ z : Int32, F 16 = z := ⟨_, rfl⟩
      have hq_v66 := tk_rng v66
      rw [hf65] at hpo54 hpo55
      have hr_v66 : 0 ≤ v66.toInt ∧ v66.toInt ≤ 3 := hIF.at hf65
      obtain ⟨w68, hf67⟩ : ∃ z : Int64, G 17 = z := ⟨_, rfl⟩
      have hq_w68 := tk_rngL w68
      rw [hf67] at hpo55
      obtain ⟨v70, hf69⟩ : ∃ z : Int32, F 19 = z := ⟨_, rfl⟩
      have hq_v70 := tk_rng v70
      rw [hf69] at hpo57 hpo58 hpo59
      have hr_v70 : 0 ≤ v70.toInt ∧ v70.toInt ≤ 1 := hIF.at hf69
      have hwk_71 : v70.toInt ≤ 0 := by omega
      have hwk_72 : 0 ≤ (-1) * gt.toInt + v62.toInt := by omega
      have hPI := hPI.to (hrr9 24 (by decide)) (hrr9 25 (by decide)) (hrr9 27 (by decide)) (hrr9 28 (by decide)) rfl rfl
      have hLo := And.intro (hLo.1.to (hrr9 24 (by decide))) (hLo.2.to (hrr9 25 (by decide)))
      have hR24 : R 24 = Ra 24 := hrr9 24 (by decide)
      refine lv_aload_n hx hb dX13_leaf_22 rfl (lv_at hl 0 rfl) ?_
      refine mz_getI hx hb htl hown hK hM 19 (Nat.le_of_ble_eq_true rfl) rfl (htl _ mw_668) (fun _ h9 => h9) dX13_leaf_23 (fun v9 e9 => ?_)
      refine fx_ti (v := v70) (e9.symm.trans hf69) ?_
      refine lv_if_ne (tgt := 45) hx hb dX13_leaf_26 (by decide) (fun c9 => absurd ((fi_eq rfl (show (0 : Int32).toInt = 0 by decide)).mpr (show v70.toInt = 0 by omega)) c9) (fun _ => ?_)
      refine lv_aload_n hx hb dX13_leaf_29 rfl (lv_at hl 0 rfl) ?_
      refine lv_iload_n hx hb dX13_leaf_30 rfl (lv_at hl 2 rfl) ?_
      refine lv_iload_n hx hb dX13_leaf_31 rfl (lv_at hl 3 rfl) ?_
      refine mz_Vv (As := [.int p2, .int p3]) (rest := []) ⟨hx, hb, hml, hown, hts⟩ hK hM hS (k_X13_emit l D cy ld ad am hD _ _ _ _ p2 p3 gc hIF hIG hIR hg_6 (by omega)) ⟨callB_of 2 hts (wl_in mw_758) rfl rfl rfl (htl _ mw_5) (htl _ mw_755) hd_yX13_emit ⟨(Nat.le_of_ble_eq_true rfl), (Nat.le_of_ble_eq_true rfl)⟩, htl _ mw_756, htl _ mw_757⟩ rfl hl.1 rfl (Nat.le_of_ble_eq_true rfl) dX13_leaf_32 ⟨(Nat.le_of_ble_eq_true rfl), (Nat.le_of_ble_eq_true rfl)⟩ (fun H locs F G R S hpo hM hS => ?_)
      obtain ⟨hIF, hIG, hIR, hfr9, hrr9, hgr9, hpo73, hx74, hx75⟩ := hpo
      have hFF := mz_fr (K := [14, 15, 16, 18, 19, 23, 26]) (Fa := Fa) hfr9 hFF (by decide)
      have hRR := mz_fr (K := [24, 25]) (Fa := Ra) hrr9 hRR (by decide)
      have hGG := mz_fr (K := [17]) (Fa := Ga) hgr9 hGG (by decide)
      have hg_3 := (hfr9 13 (by decide)).trans hg_3
      have hg_7 := (hfr9 29 (by decide)).trans hg_7
      have hf28 := (hfr9 26 (by decide)).trans hf28
      have hf61 := (hfr9 14 (by decide)).trans hf61
      have hf63 := (hfr9 15 (by decide)).trans hf63
      have hf65 := (hfr9 16 (by decide)).trans hf65
      have hf67 := (hgr9 17 (by decide)).trans hf67
      have hf69 := (hfr9 19 (by decide)).trans hf69
      obtain ⟨v78, hf77⟩ : ∃ z : Int32, F 23 = z := ⟨_, rfl⟩
      have hq_v78 := tk_rng v78
      rw [hf77] at hpo73
      have hr_v78 : 0 ≤ v78.toInt ∧ v78.toInt ≤ 400 := hIF.at hf77
      have hz9 := hPI.1
      have hPI : PI (R 24) (R 25) (R 27) (R 28) zs v78.toInt.toNat gd.toInt.toNat 1 := (PI.leaf hPI (by omega) (by omega) (by omega) hx74 hx75).to rfl rfl (hrr9 27 (by decide)) (hrr9 28 (by decide)) (by omega) rfl
      have hLo := And.intro ((hLo.1.upd hz9).to hx74) ((hLo.2.upd hz9).to hx75)
      have hq24 : R 24 = upd (Ra 24) gc.toInt.toNat p2 := hx74.trans (congrArg (fun f => upd f gc.toInt.toNat p2) (hR24))
      refine lv_aload_n hx hb dX13_leaf_35 rfl (lv_at hl 0 rfl) ?_
      refine lv_dup hx hb dX13_leaf_36 rfl ?_
      refine mz_getI hx hb htl hown hK hM 26 (Nat.le_of_ble_eq_true rfl) rfl (htl _ mw_676) (fun _ h9 => h9) dX13_leaf_37 (fun v9 e9 => ?_)
      refine fx_ti (v := v29) (e9.symm.trans hf28) ?_
      refine lv_iconst (v := 1) hx hb dX13_leaf_40 (by decide) ?_
      refine lv_iadd hx hb dX13_leaf_41 ?_
      refine tk_add rfl (show (1 : Int32).toInt = 1 by decide) (by omega) (by omega) (fun v79 h_v79 => ?_)
      refine mz_putI (ty := .int) (x := v79) hx hb htl hown hK hD hM hS 26 (Nat.le_of_ble_eq_true rfl) rfl (htl _ mw_676) (fun _ h9 => h9) rfl (tyX13_ok 26 (by decide)) rfl rfl dX13_leaf_42 (fun H locs F hM hS hf9 hj9 => ?_)
      have hIF := hIF.put hf9 hj9 (show 0 ≤ (v79 : Int32).toInt by omega) (show (v79 : Int32).toInt ≤ 50 by omega) (by decide)
      have hFF := mz_frp (K := [14, 15, 16, 18, 19, 23, 26]) (Fa := Fa) hj9 hFF (by decide)
      have hg_3 := (hj9 13 (by decide)).trans hg_3
      have hg_7 := (hj9 29 (by decide)).trans hg_7
      have hf61 := (hj9 14 (by decide)).trans hf61
      have hf63 := (hj9 15 (by decide)).trans hf63
      have hf65 := (hj9 16 (by decide)).trans hf65
      have hf69 := (hj9 19 (by decide)).trans hf69
      have hf77 := (hj9 23 (by decide)).trans hf77
      have hf81 := hf9
      exact mz_vret hx hb hr hlocks ⟨hIF, hIG, hIR, hFF, hRR, hGG, (by rw [hf61, hf63]; omega), (by rw [hf63]; omega), (by rw [hf61, hf63, hf65]; omega), (by rw [hf61, hf63, hf65, hf67]; omega), (by rw [hf61]; omega), (by rw [hf61, hf77]; omega), (by rw [hf77]; omega), (by rw [hf61, hf69, hf77]; omega), (fun _ => ⟨hPI.to rfl rfl rfl rfl (by rw [hf77]) (by rw [hg_7]), hLo.1, hLo.2, hq24⟩)⟩ hM hS dX13_leaf_45
end
section
theorem hd_yX13_push : yX13_push.cls ≠ "java/lang/invoke/MethodHandle" ∧ yX13_push.cls ≠ "java/lang/invoke/VarHandle" ∧ (parseMethodDescriptor yX13_push.desc).map (fun d => d.parameters.length) = some 2 := by decide +kernel
theorem dX13_openBracket_0 : decode cX13_openBracket 0 = .ok (.aload_n 0, 1) := by decide +kernel
theorem dX13_openBracket_1 : decode cX13_openBracket 1 = .ok (.aload_n 0, 1) := by decide +kernel
theorem dX13_openBracket_2 : decode cX13_openBracket 2 = .ok (.getfield 300, 3) := by decide +kernel
theorem dX13_openBracket_5 : decode cX13_openBracket 5 = .ok (.bipush 8, 2) := by decide +kernel
theorem dX13_openBracket_7 : decode cX13_openBracket 7 = .ok (.if_icmp .ge 7, 3) := by decide +kernel
theorem dX13_openBracket_14 : decode cX13_openBracket 14 = .ok (.iconst 0, 1) := by decide +kernel
theorem dX13_openBracket_15 : decode cX13_openBracket 15 = .ok (.invokevirtual 271, 3) := by decide +kernel
theorem dX13_openBracket_18 : decode cX13_openBracket 18 = .ok (.aload_n 0, 1) := by decide +kernel
theorem dX13_openBracket_19 : decode cX13_openBracket 19 = .ok (.getfield 236, 3) := by decide +kernel
theorem dX13_openBracket_22 : decode cX13_openBracket 22 = .ok (.ifCond .ne 19, 3) := by decide +kernel
theorem dX13_openBracket_41 : decode cX13_openBracket 41 = .ok (.return_, 1) := by decide +kernel
theorem dX13_openBracket_10 : decode cX13_openBracket 10 = .ok (.iconst 1, 1) := by decide +kernel
theorem dX13_openBracket_11 : decode cX13_openBracket 11 = .ok (.goto 4, 3) := by decide +kernel
theorem dX13_openBracket_25 : decode cX13_openBracket 25 = .ok (.aload_n 0, 1) := by decide +kernel
theorem dX13_openBracket_26 : decode cX13_openBracket 26 = .ok (.dup, 1) := by decide +kernel
theorem dX13_openBracket_27 : decode cX13_openBracket 27 = .ok (.getfield 300, 3) := by decide +kernel
theorem dX13_openBracket_30 : decode cX13_openBracket 30 = .ok (.iconst 1, 1) := by decide +kernel
theorem dX13_openBracket_31 : decode cX13_openBracket 31 = .ok (.iadd, 1) := by decide +kernel
theorem dX13_openBracket_32 : decode cX13_openBracket 32 = .ok (.putfield 300, 3) := by decide +kernel
theorem dX13_openBracket_35 : decode cX13_openBracket 35 = .ok (.aload_n 0, 1) := by decide +kernel
theorem dX13_openBracket_36 : decode cX13_openBracket 36 = .ok (.iload_n 1, 1) := by decide +kernel
theorem dX13_openBracket_37 : decode cX13_openBracket 37 = .ok (.iconst 0, 1) := by decide +kernel
theorem dX13_openBracket_38 : decode cX13_openBracket 38 = .ok (.invokevirtual 303, 3) := by decide +kernel
set_option maxHeartbeats 4000000 in
set_option maxRecDepth 100000 in
theorem k_X13_openBracket_32 (l : Launch) (D : va_G) (cy : Nat → ClassId) (ld ad : Nat → Nat) (am : Nat) (hD : mz_D ad am) (Fa : Nat → Int32) (Ga : Nat → Int64) (Ra : Nat → Nat → Int32) (Sa : Nat → Nat → Int64) (gf : Int32) (gt : Int32) (gs : Int32) (gp : Int32) (gw : Int64) (gb : Int32) (gc : Int32) (gd : Int32) (zs : Nat) (hIF : mz_IF false Fa) (hIG : mz_IG Ga) (hIR : mz_IR [] true Ra) (hg_0 : Fa 14 = gf) (hg_1 : Fa 15 = gt) (hg_2 : Fa 16 = gs) (hg_3 : Fa 13 = gp) (hg_4 : Ga 17 = gw) (hg_5 : Fa 19 = gb) (hg_6 : Fa 23 = gc) (hg_7 : Fa 29 = gd) (hp_0 : 0 ≤ (-1) * gf.toInt + gt.toInt) (hp_1 : 0 ≤ gp.toInt + (-1) * gt.toInt) (hp_2 : (1 ≤ gs.toInt → 0 ≤ (-1) * gf.toInt + gt.toInt + (-1))) (hp_3 : (27 ≤ gw.toInt → 1 ≤ gs.toInt → gs.toInt ≤ 1 → 0 ≤ (-1) * gf.toInt + gt.toInt + (-2))) (hp_4 : 0 ≤ (-1) * gc.toInt + (-1) * gd.toInt + gf.toInt) (hp_5 : gb.toInt ≤ 0) (hp_6 : 1 ≤ gs.toInt) (hx_0 : PI (Ra 24) (Ra 25) (Ra 27) (Ra 28) zs gc.toInt.toNat gd.toInt.toNat 0) : Met l yX13_openBracket (wl yX13_openBracket cX13_openBracket 2 none) ({ frames := 6, cells := 0, slots := 0, locals := 350 }) (mz_p D cy ld ad am Fa Ga Ra Sa [.ref am, .int 32]) (mz_w D cy ad am (fun F G R S => mz_IF false F ∧ mz_IG G ∧ mz_IR [] true R ∧ (∀ k : Nat, k ∉ ([14, 15, 16, 18, 19, 29, 30] : List Nat) → F k = Fa k) ∧ (∀ k : Nat, k ∉ ([27, 28] : List Nat) → R k = Ra k) ∧ (∀ k : Nat, k ∉ ([17] : List Nat) → G k = Ga k) ∧ 0 ≤ (-1) * (F 14).toInt + (F 15).toInt ∧ 0 ≤ gp.toInt + (-1) * (F 15).toInt ∧ (1 ≤ (F 16).toInt → 0 ≤ (-1) * (F 14).toInt + (F 15).toInt + (-1)) ∧ (27 ≤ (G 17).toInt → 1 ≤ (F 16).toInt → (F 16).toInt ≤ 1 → 0 ≤ (-1) * (F 14).toInt + (F 15).toInt + (-2)) ∧ 0 ≤ (-1) * gf.toInt + (F 14).toInt ∧ 0 ≤ (-1) * (F 23).toInt + (-1) * (F 29).toInt + (F 14).toInt ∧ 0 ≤ (-1) * gc.toInt + (F 23).toInt ∧ ((F 19).toInt ≤ 0 → 0 ≤ (-1) * gf.toInt + (F 14).toInt + (-1)) ∧ ((F 19).toInt = 0 → PT (R 24) (R 25) (R 27) (R 28) zs (F 23).toInt.toNat (F 29).toInt.toNat 1 ∧ low zs (Ra 24) (R 24) ∧ low zs (Ra 25) (R 25)))) 0 0 (mz_W ad am) := by
  refine mz_met (y := yX13_openBracket) (cc := cX13_openBracket) (maxL := 2) (ret := none) (av := [.ref am, .int 32]) _ (by decide) (Nat.le_of_ble_eq_true rfl) ?_
  intro p e s m args below meth c hx hb hr hml hts htl hown hlocks hK H locs hM hS ls hl
  have hown : s.vm.findClass RX13 = some m.cls := hown
  have hl : lv_has ls 2 [(0, .ref am), (1, .int 32)] := hl
  have hq_gf := tk_rng gf
  have hq_gt := tk_rng gt
  have hq_gs := tk_rng gs
  have hq_gp := tk_rng gp
  have hq_gw := tk_rngL gw
  have hq_gb := tk_rng gb
  have hq_gc := tk_rng gc
  have hq_gd := tk_rng gd
  have hr_gf : 0 ≤ gf.toInt ∧ gf.toInt ≤ 400 := hIF.at hg_0
  have hr_gt : 0 ≤ gt.toInt ∧ gt.toInt ≤ 400 := hIF.at hg_1
  have hr_gs : 0 ≤ gs.toInt ∧ gs.toInt ≤ 3 := hIF.at hg_2
  have hr_gp : 0 ≤ gp.toInt ∧ gp.toInt ≤ 400 := hIF.at hg_3
  have hr_gb : 0 ≤ gb.toInt ∧ gb.toInt ≤ 1 := hIF.at hg_5
  have hr_gc : 0 ≤ gc.toInt ∧ gc.toInt ≤ 400 := hIF.at hg_6
  have hr_gd : 0 ≤ gd.toInt ∧ gd.toInt ≤ 400 := hIF.at hg_7
  have hwk_1 : 0 ≤ (-1) * gf.toInt + gt.toInt + (-1) := by omega
  have hPI := hx_0
  have hz0 := hPI.1
  have hLo := And.intro (low.refl zs (Ra 24)) (low.refl zs (Ra 25))
  refine lv_aload_n hx hb dX13_openBracket_0 rfl (lv_at hl 0 rfl) ?_
  refine lv_aload_n hx hb dX13_openBracket_1 rfl (lv_at hl 0 rfl) ?_
  refine mz_getI hx hb htl hown hK hM 30 (Nat.le_of_ble_eq_true rfl) rfl (htl _ mw_719) (fun _ h9 => h9) dX13_openBracket_2 (fun v3 hf2 => ?_)
  have hq_v3 := tk_rng v3
  refine lv_bipush (v := 8) hx hb dX13_openBracket_5 (by decide) ?_
  refine lv_icmp_ge (tgt := 14) hx hb dX13_openBracket_7 (by decide) (fun c9 => ?_) (fun c9 => ?_)
  · have hc4 : 8 ≤ v3.toInt := (fi_le (show (8 : Int32).toInt = 8 by decide) rfl).mp c9
    refine lv_iconst (v := 0) hx hb dX13_openBracket_14 (by decide) ?_
    have hk_0 : (0 : Int32).toInt = 0 := by decide
    refine mz_Vv (As := [.int 0]) (rest := []) ⟨hx, hb, hml, hown, hts⟩ hK hM hS (k_X13_must l D cy ld ad am hD _ _ _ _ 0 gf gt gs gp gw gb hIF hIG hIR hg_0 hg_1 hg_2 hg_3 hg_4 hg_5 (by omega) (by omega) (by omega) (by omega) (by omega) (by omega)) ⟨callB_of 1 hts (wl_in mw_713) rfl rfl rfl (htl _ mw_5) (htl _ mw_710) hd_yX13_must ⟨(Nat.le_of_ble_eq_true rfl), (Nat.le_of_ble_eq_true rfl)⟩, htl _ mw_711, htl _ mw_712⟩ rfl hl.1 rfl (Nat.le_of_ble_eq_true rfl) dX13_openBracket_15 ⟨(Nat.le_of_ble_eq_true rfl), (Nat.le_of_ble_eq_true rfl)⟩ (fun H locs F G R S hpo hM hS => ?_)
    obtain ⟨hIF, hIG, hIR, hfr9, hrr9, hgr9, hpo5, hpo6, hpo10, hpo11, hpo12, hpo13, hpo14, hpo15⟩ := hpo
    have hFF := mz_fr (K := [14, 15, 16, 18, 19, 29, 30]) (Fa := Fa) hfr9 (fun _ _ => rfl) (by decide)
    have hRR := mz_fr (K := [27, 28]) (Fa := Ra) hrr9 (fun _ _ => rfl) (by decide)
    have hGG := mz_fr (K := [17]) (Fa := Ga) hgr9 (fun _ _ => rfl) (by decide)
    have hg_3 := (hfr9 13 (by decide)).trans hg_3
    have hg_6 := (hfr9 23 (by decide)).trans hg_6
    have hg_7 := (hfr9 29 (by decide)).trans hg_7
    have hf2 := (hfr9 30 (by decide)).trans hf2
    obtain ⟨v18, hf17⟩ : ∃ z : Int32, F 14 = z := ⟨_, rfl⟩
    have hq_v18 := tk_rng v18
    rw [hf17] at hpo5 hpo10 hpo11 hpo12 hpo14
    have hr_v18 : 0 ≤ v18.toInt ∧ v18.toInt ≤ 400 := hIF.at hf17
    obtain ⟨v20, hf19⟩ : ∃ z : Int32, F 15 = z := ⟨_, rfl⟩
    have hq_v20 := tk_rng v20
    rw [hf19] at hpo5 hpo6 hpo10 hpo11
    have hr_v20 : 0 ≤ v20.toInt ∧ v20.toInt ≤ 400 := hIF.at hf19
    obtain ⟨v22, hf21⟩ : ∃ z : Int32, F 16 = z := ⟨_, rfl⟩
    have hq_v22 := tk_rng v22
    rw [hf21] at hpo10 hpo11
    have hr_v22 : 0 ≤ v22.toInt ∧ v22.toInt ≤ 3 := hIF.at hf21
    obtain ⟨w24, hf23⟩ : ∃ z : Int64, G 17 = z := ⟨_, rfl⟩
    have hq_w24 := tk_rngL w24
    rw [hf23] at hpo11
    obtain ⟨v26, hf25⟩ : ∃ z : Int32, F 19 = z := ⟨_, rfl⟩
    have hq_v26 := tk_rng v26
    rw [hf25] at hpo13 hpo14 hpo15
    have hr_v26 : 0 ≤ v26.toInt ∧ v26.toInt ≤ 1 := hIF.at hf25
    have hPI := hPI.to (hrr9 24 (by decide)) (hrr9 25 (by decide)) (hrr9 27 (by decide)) (hrr9 28 (by decide)) rfl rfl
    have hLo := And.intro (hLo.1.to (hrr9 24 (by decide))) (hLo.2.to (hrr9 25 (by decide)))
    refine lv_aload_n hx hb dX13_openBracket_18 rfl (lv_at hl 0 rfl) ?_
    refine mz_getI hx hb htl hown hK hM 19 (Nat.le_of_ble_eq_true rfl) rfl (htl _ mw_668) (fun _ h9 => h9) dX13_openBracket_19 (fun v9 e9 => ?_)
    refine fx_ti (v := v26) (e9.symm.trans hf25) ?_
    refine lv_if_ne (tgt := 41) hx hb dX13_openBracket_22 (by decide) (fun c9 => ?_) (fun c9 => ?_)
    · have hc27 : ¬ (v26.toInt = 0) := fun h9 => c9 ((fi_eq rfl (show (0 : Int32).toInt = 0 by decide)).mpr h9)
      exact mz_vret hx hb hr hlocks ⟨hIF, hIG, hIR, hFF, hRR, hGG, (by rw [hf17, hf19]; omega), (by rw [hf19]; omega), (by rw [hf17, hf19, hf21]; omega), (by rw [hf17, hf19, hf21, hf23]; omega), (by rw [hf17]; omega), (by rw [hf17, hg_6, hg_7]; omega), (by rw [hg_6]; omega), (by rw [hf17, hf25]; omega), (by rw [hf25]; exact fun h9 => absurd h9 (by omega))⟩ hM hS dX13_openBracket_41
    · have hc27 : v26.toInt = 0 := (fi_eq rfl (show (0 : Int32).toInt = 0 by decide)).mp c9
      have hwk_28 : 0 ≤ (-1) * gt.toInt + v18.toInt ∧ 0 ≤ (-1) := by omega
      exfalso
      omega
  · have hc4 : ¬ (8 ≤ v3.toInt) := fun h9 => c9 ((fi_le (show (8 : Int32).toInt = 8 by decide) rfl).mpr h9)
    refine lv_iconst (v := 1) hx hb dX13_openBracket_10 (by decide) ?_
    refine lv_goto (tgt := 15) hx hb dX13_openBracket_11 (by decide) ?_
    have hk_1 : (1 : Int32).toInt = 1 := by decide
    refine mz_Vv (As := [.int 1]) (rest := []) ⟨hx, hb, hml, hown, hts⟩ hK hM hS (k_X13_must l D cy ld ad am hD _ _ _ _ 1 gf gt gs gp gw gb hIF hIG hIR hg_0 hg_1 hg_2 hg_3 hg_4 hg_5 (by omega) (by omega) (by omega) (by omega) (by omega) (by omega)) ⟨callB_of 1 hts (wl_in mw_713) rfl rfl rfl (htl _ mw_5) (htl _ mw_710) hd_yX13_must ⟨(Nat.le_of_ble_eq_true rfl), (Nat.le_of_ble_eq_true rfl)⟩, htl _ mw_711, htl _ mw_712⟩ rfl hl.1 rfl (Nat.le_of_ble_eq_true rfl) dX13_openBracket_15 ⟨(Nat.le_of_ble_eq_true rfl), (Nat.le_of_ble_eq_true rfl)⟩ (fun H locs F G R S hpo hM hS => ?_)
    obtain ⟨hIF, hIG, hIR, hfr9, hrr9, hgr9, hpo29, hpo30, hpo31, hpo32, hpo33, hpo34, hpo35, hpo36⟩ := hpo
    have hFF := mz_fr (K := [14, 15, 16, 18, 19, 29, 30]) (Fa := Fa) hfr9 (fun _ _ => rfl) (by decide)
    have hRR := mz_fr (K := [27, 28]) (Fa := Ra) hrr9 (fun _ _ => rfl) (by decide)
    have hGG := mz_fr (K := [17]) (Fa := Ga) hgr9 (fun _ _ => rfl) (by decide)
    have hg_3 := (hfr9 13 (by decide)).trans hg_3
    have hg_6 := (hfr9 23 (by decide)).trans hg_6
    have hg_7 := (hfr9 29 (by decide)).trans hg_7
    have hf2 := (hfr9 30 (by decide)).trans hf2
    obtain ⟨v39, hf38⟩ : ∃ z : Int32, F 14 = z := ⟨_, rfl⟩
    have hq_v39 := tk_rng v39
    rw [hf38] at hpo29 hpo31 hpo32 hpo33 hpo35
    have hr_v39 : 0 ≤ v39.toInt ∧ v39.toInt ≤ 400 := hIF.at hf38
    obtain ⟨v41, hf40⟩ : ∃ z : Int32, F 15 = z := ⟨_, rfl⟩
    have hq_v41 := tk_rng v41
    rw [hf40] at hpo29 hpo30 hpo31 hpo32
    have hr_v41 : 0 ≤ v41.toInt ∧ v41.toInt ≤ 400 := hIF.at hf40
    obtain ⟨v43, hf42⟩ : ∃ z : Int32, F 16 = z := ⟨_, rfl⟩
    have hq_v43 := tk_rng v43
    rw [hf42] at hpo31 hpo32
    have hr_v43 : 0 ≤ v43.toInt ∧ v43.toInt ≤ 3 := hIF.at hf42
    obtain ⟨w45, hf44⟩ : ∃ z : Int64, G 17 = z := ⟨_, rfl⟩
    have hq_w45 := tk_rngL w45
    rw [hf44] at hpo32
    obtain ⟨v47, hf46⟩ : ∃ z : Int32, F 19 = z := ⟨_, rfl⟩
    have hq_v47 := tk_rng v47
    rw [hf46] at hpo34 hpo35 hpo36
    have hr_v47 : 0 ≤ v47.toInt ∧ v47.toInt ≤ 1 := hIF.at hf46
    have hwk_48 : v47.toInt ≤ 0 := by omega
    have hwk_49 : 0 ≤ (-1) * gt.toInt + v39.toInt := by omega
    have hPI := hPI.to (hrr9 24 (by decide)) (hrr9 25 (by decide)) (hrr9 27 (by decide)) (hrr9 28 (by decide)) rfl rfl
    have hLo := And.intro (hLo.1.to (hrr9 24 (by decide))) (hLo.2.to (hrr9 25 (by decide)))
    refine lv_aload_n hx hb dX13_openBracket_18 rfl (lv_at hl 0 rfl) ?_
    refine mz_getI hx hb htl hown hK hM 19 (Nat.le_of_ble_eq_true rfl) rfl (htl _ mw_668) (fun _ h9 => h9) dX13_openBracket_19 (fun v9 e9 => ?_)
    refine fx_ti (v := v47) (e9.symm.trans hf46) ?_
    refine lv_if_ne (tgt := 41) hx hb dX13_openBracket_22 (by decide) (fun c9 => absurd ((fi_eq rfl (show (0 : Int32).toInt = 0 by decide)).mpr (show v47.toInt = 0 by omega)) c9) (fun _ => ?_)
    refine lv_aload_n hx hb dX13_openBracket_25 rfl (lv_at hl 0 rfl) ?_
    refine lv_dup hx hb dX13_openBracket_26 rfl ?_
    refine mz_getI hx hb htl hown hK hM 30 (Nat.le_of_ble_eq_true rfl) rfl (htl _ mw_719) (fun _ h9 => h9) dX13_openBracket_27 (fun v9 e9 => ?_)
    refine fx_ti (v := v3) (e9.symm.trans hf2) ?_
    refine lv_iconst (v := 1) hx hb dX13_openBracket_30 (by decide) ?_
    refine lv_iadd hx hb dX13_openBracket_31 ?_
    refine tk_add rfl (show (1 : Int32).toInt = 1 by decide) (by omega) (by omega) (fun v50 h_v50 => ?_)
    refine mz_putI (ty := .int) (x := v50) hx hb htl hown hK hD hM hS 30 (Nat.le_of_ble_eq_true rfl) rfl (htl _ mw_719) (fun _ h9 => h9) rfl (tyX13_ok 30 (by decide)) rfl rfl dX13_openBracket_32 (fun H locs F hM hS hf9 hj9 => ?_)
    have hIF := hIF.put hf9 hj9 (tk_rng _).1 (tk_rng _).2 (by decide)
    have hFF := mz_frp (K := [14, 15, 16, 18, 19, 29, 30]) (Fa := Fa) hj9 hFF (by decide)
    have hg_3 := (hj9 13 (by decide)).trans hg_3
    have hg_6 := (hj9 23 (by decide)).trans hg_6
    have hg_7 := (hj9 29 (by decide)).trans hg_7
    have hf38 := (hj9 14 (by decide)).trans hf38
    have hf40 := (hj9 15 (by decide)).trans hf40
    have hf42 := (hj9 16 (by decide)).trans hf42
    have hf46 := (hj9 19 (by decide)).trans hf46
    have hf52 := hf9
    refine lv_aload_n hx hb dX13_openBracket_35 rfl (lv_at hl 0 rfl) ?_
    refine lv_iload_n hx hb dX13_openBracket_36 rfl (lv_at hl 1 rfl) ?_
    refine lv_iconst (v := 0) hx hb dX13_openBracket_37 (by decide) ?_
    have hk_32 : (32 : Int32).toInt = 32 := by decide
    have hk_0 : (0 : Int32).toInt = 0 := by decide
    refine mz_Vv (As := [.int 32, .int 0]) (rest := []) ⟨hx, hb, hml, hown, hts⟩ hK hM hS (k_X13_push l D cy ld ad am hD _ _ _ _ 32 0 gd hIF hIG hIR hg_7 (by omega) (by omega) (by omega)) ⟨callB_of 2 hts (wl_in mw_728) rfl rfl rfl (htl _ mw_5) (htl _ mw_725) hd_yX13_push ⟨(Nat.le_of_ble_eq_true rfl), (Nat.le_of_ble_eq_true rfl)⟩, htl _ mw_726, htl _ mw_727⟩ rfl hl.1 rfl (Nat.le_of_ble_eq_true rfl) dX13_openBracket_38 ⟨(Nat.le_of_ble_eq_true rfl), (Nat.le_of_ble_eq_true rfl)⟩ (fun H locs F G R S hpo hM hS => ?_)
    obtain ⟨hIF, hIG, hIR, hfr9, hrr9, hgr9, hpo53, hx54, hx55⟩ := hpo
    have hFF := mz_fr (K := [14, 15, 16, 18, 19, 29, 30]) (Fa := Fa) hfr9 hFF (by decide)
    have hRR := mz_fr (K := [27, 28]) (Fa := Ra) hrr9 hRR (by decide)
    have hGG := mz_fr (K := [17]) (Fa := Ga) hgr9 hGG (by decide)
    have hg_3 := (hfr9 13 (by decide)).trans hg_3
    have hg_6 := (hfr9 23 (by decide)).trans hg_6
    have hf38 := (hfr9 14 (by decide)).trans hf38
    have hf40 := (hfr9 15 (by decide)).trans hf40
    have hf42 := (hfr9 16 (by decide)).trans hf42
    have hf44 := (hgr9 17 (by decide)).trans hf44
    have hf46 := (hfr9 19 (by decide)).trans hf46
    have hf52 := (hfr9 30 (by decide)).trans hf52
    obtain ⟨v58, hf57⟩ : ∃ z : Int32, F 29 = z := ⟨_, rfl⟩
    have hq_v58 := tk_rng v58
    rw [hf57] at hpo53
    have hr_v58 : 0 ≤ v58.toInt ∧ v58.toInt ≤ 400 := hIF.at hf57
    have hPI : PI (R 24) (R 25) (R 27) (R 28) zs gc.toInt.toNat v58.toInt.toNat 0 := (PI.push (o := 32) hPI (by decide) (by decide) (by decide) (by decide) (Or.inr (Or.inl (by decide))) hx54 hx55).to (hrr9 24 (by decide)) (hrr9 25 (by decide)) rfl rfl rfl (by omega)
    have hLo := And.intro (hLo.1.to (hrr9 24 (by decide))) (hLo.2.to (hrr9 25 (by decide)))
    exact mz_vret hx hb hr hlocks ⟨hIF, hIG, hIR, hFF, hRR, hGG, (by rw [hf38, hf40]; omega), (by rw [hf40]; omega), (by rw [hf38, hf40, hf42]; omega), (by rw [hf38, hf40, hf42, hf44]; omega), (by rw [hf38]; omega), (by rw [hf38, hg_6, hf57]; omega), (by rw [hg_6]; omega), (by rw [hf38, hf46]; omega), (fun _ => ⟨PT.mk hPI (by decide) (fun h9 => absurd h9 (by decide)) (fun h9 => absurd h9 (by decide)) rfl rfl rfl rfl (by rw [hg_6]) (by rw [hf57]), hLo⟩)⟩ hM hS dX13_openBracket_41
end
