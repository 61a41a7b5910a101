theorem dX13_inner_0 : decode cX13_inner 0 = .ok (.iconst (-1), 1) := by decide +kernel
theorem dX13_inner_1 : decode cX13_inner 1 = .ok (.istore_n 1, 1) := by decide +kernel
theorem dX13_inner_2 : decode cX13_inner 2 = .ok (.iconst 0, 1) := by decide +kernel
theorem dX13_inner_3 : decode cX13_inner 3 = .ok (.istore_n 2, 1) := by decide +kernel
theorem dX13_inner_4 : decode cX13_inner 4 = .ok (.iload_n 2, 1) := by decide +kernel
theorem dX13_inner_5 : decode cX13_inner 5 = .ok (.aload_n 0, 1) := by decide +kernel
theorem dX13_inner_6 : decode cX13_inner 6 = .ok (.getfield 278, 3) := by decide +kernel
theorem dX13_inner_9 : decode cX13_inner 9 = .ok (.if_icmp .ge 31, 3) := by decide +kernel
theorem dX13_inner_40 : decode cX13_inner 40 = .ok (.iload_n 1, 1) := by decide +kernel
theorem dX13_inner_41 : decode cX13_inner 41 = .ok (.ireturn, 1) := by decide +kernel
theorem dX13_inner_12 : decode cX13_inner 12 = .ok (.aload_n 0, 1) := by decide +kernel
theorem dX13_inner_13 : decode cX13_inner 13 = .ok (.getfield 51, 3) := by decide +kernel
theorem dX13_inner_16 : decode cX13_inner 16 = .ok (.iload_n 2, 1) := by decide +kernel
theorem dX13_inner_17 : decode cX13_inner 17 = .ok (.iaload, 1) := by decide +kernel
theorem dX13_inner_18 : decode cX13_inner 18 = .ok (.bipush 31, 2) := by decide +kernel
theorem dX13_inner_20 : decode cX13_inner 20 = .ok (.if_icmp .lt 12, 3) := by decide +kernel
theorem dX13_inner_32 : decode cX13_inner 32 = .ok (.iload_n 1, 1) := by decide +kernel
theorem dX13_inner_33 : decode cX13_inner 33 = .ok (.istore_n 1, 1) := by decide +kernel
theorem dX13_inner_34 : decode cX13_inner 34 = .ok (.iinc 2 1, 3) := by decide +kernel
theorem dX13_inner_37 : decode cX13_inner 37 = .ok (.goto (-33), 3) := by decide +kernel
theorem dX13_inner_23 : decode cX13_inner 23 = .ok (.aload_n 0, 1) := by decide +kernel
theorem dX13_inner_24 : decode cX13_inner 24 = .ok (.getfield 51, 3) := by decide +kernel
theorem dX13_inner_27 : decode cX13_inner 27 = .ok (.iload_n 2, 1) := by decide +kernel
theorem dX13_inner_28 : decode cX13_inner 28 = .ok (.iaload, 1) := by decide +kernel
theorem dX13_inner_29 : decode cX13_inner 29 = .ok (.goto 4, 3) := by decide +kernel
set_option maxHeartbeats 4000000 in
set_option maxRecDepth 100000 in
theorem k_X13_inner (l : Launch) (D : va_G) (cy : Nat → ClassId) (ld ad : Nat → Nat) (am : Nat) (hD : mz_D ad am) (Fa : Nat → Int32) (Ga : Nat → Int64) (Ra : Nat → Nat → Int32) (Sa : Nat → Nat → Int64) (gd : Int32) (hIF : mz_IF false Fa) (hIG : mz_IG Ga) (hIR : mz_IR [] true Ra) (hg_0 : Fa 29 = gd) : Met l yX13_inner (wl yX13_inner cX13_inner 3 (some .int)) ({ frames := 3, cells := 0, slots := 0, locals := 140 }) (mz_p D cy ld ad am Fa Ga Ra Sa [.ref am]) (mz_j D cy ad am Fa Ga Ra Sa (fun r => inn (Ra 27) gd.toInt.toNat r.toInt)) 0 0 (mz_W ad am) := by
  refine mz_met (y := yX13_inner) (cc := cX13_inner) (maxL := 3) (ret := (some .int)) (av := [.ref am]) _ (by decide) (Nat.le_of_ble_eq_true rfl) ?_
  intro p e s m args below meth c hx hb hr hml hts htl hown hlocks hK H locs hM hS ls hl
  have hown : s.vm.findClass RX13 = some m.cls := hown
  have hl : lv_has ls 3 [(0, .ref am)] := hl
  have hq_gd := tk_rng gd
  have hr_gd : 0 ≤ gd.toInt ∧ gd.toInt ≤ 400 := hIF.at hg_0
  refine lv_iconst (v := (-1)) hx hb dX13_inner_0 (by decide) ?_
  refine lv_istore_n (lv' := [(1, .int (-1)), (0, .ref am)]) hx hb dX13_inner_1 rfl hl (by decide) rfl (fun ls hl => ?_)
  refine lv_iconst (v := 0) hx hb dX13_inner_2 (by decide) ?_
  refine lv_istore_n (lv' := [(2, .int 0), (1, .int (-1)), (0, .ref am)]) hx hb dX13_inner_3 rfl hl (by decide) rfl (fun ls hl => ?_)
  have hl102 : ∀ (N_l102 : Nat) (v28 : Int32) (v29 : Int32), (0 ≤ v28.toInt) → ((-1) ≤ v29.toInt) → (0 ≤ gd.toInt + (-1) * v28.toInt) → (inn (Ra 27) v28.toInt.toNat v29.toInt) → ((-1) * v28.toInt + 400 < (N_l102 : Int)) → ∀ ls : Array Slot, lv_has ls 3 [(2, .int v28), (1, .int v29), (0, .ref am)] → W p l e ({ frames := 3, cells := 0, slots := 0, locals := 140 }) s m args below meth c H locs 0 0 (MQ below (mz_j D cy ad am Fa Ga Ra Sa (fun r => inn (Ra 27) gd.toInt.toNat r.toInt)) args s 0 0 (mz_W ad am)) (F0 m 4 ls []) := by
    intro N_l102
    induction N_l102 with
    | zero => intro v28 v29 hq0_l102 hq1_l102 hq2_l102 hinn hm_l102 ls hl; exfalso; omega
    | succ N_l102 ih_l102 =>
      intro v28 v29 hq0_l102 hq1_l102 hq2_l102 hinn hm_l102 ls hl
      refine lv_iload_n hx hb dX13_inner_4 rfl (lv_at hl 0 rfl) ?_
      refine lv_aload_n hx hb dX13_inner_5 rfl (lv_at hl 2 rfl) ?_
      refine mz_getI hx hb htl hown hK hM 29 (Nat.le_of_ble_eq_true rfl) rfl (htl _ mw_718) (fun _ h9 => h9) dX13_inner_6 (fun v9 e9 => ?_)
      refine fx_ti (v := gd) (e9.symm.trans hg_0) ?_
      refine lv_icmp_ge (tgt := 40) hx hb dX13_inner_9 (by decide) (fun c9 => ?_) (fun c9 => ?_)
      · have hc103 : gd.toInt ≤ v28.toInt := (fi_le rfl rfl).mp c9
        refine lv_iload_n hx hb dX13_inner_40 rfl (lv_at hl 1 rfl) ?_
        exact mz_jret (v := v29) hx hb hr rfl hlocks (by rw [show gd.toInt.toNat = v28.toInt.toNat by omega]; exact hinn) hM hS dX13_inner_41
      · have hc103 : ¬ (gd.toInt ≤ v28.toInt) := fun h9 => c9 ((fi_le rfl rfl).mpr h9)
        refine lv_aload_n hx hb dX13_inner_12 rfl (lv_at hl 2 rfl) ?_
        refine mz_getR hx hb htl hown hK hM 27 (Nat.le_of_ble_eq_true rfl) (Nat.le_of_ble_eq_true rfl) (htl _ mw_200) (fun _ h9 => h9) dX13_inner_13 ?_
        refine lv_iload_n hx hb dX13_inner_16 rfl (lv_at hl 0 rfl) ?_
        refine mz_iald hx hb hK hM 27 (Nat.le_of_ble_eq_true rfl) rfl (nn := 400) rfl rfl (by omega) (by omega) dX13_inner_17 (fun v108 e_v108 => ?_)
        have hq_v108 := tk_rng v108
        refine lv_bipush (v := 31) hx hb dX13_inner_18 (by decide) ?_
        refine lv_icmp_lt (tgt := 32) hx hb dX13_inner_20 (by decide) (fun c9 => ?_) (fun c9 => ?_)
        · have hc109 : v108.toInt < 31 := (fi_lt rfl (show (31 : Int32).toInt = 31 by decide)).mp c9
          refine lv_iload_n hx hb dX13_inner_32 rfl (lv_at hl 1 rfl) ?_
          refine lv_istore_n (lv' := [(1, .int v29), (2, .int v28), (0, .ref am)]) hx hb dX13_inner_33 rfl hl (by decide) rfl (fun ls hl => ?_)
          obtain ⟨v110, h_v110, e_v110⟩ := tk_inc v28 1 (by decide) (by omega) (by omega)
          refine lv_iinc (v := v110) (lv' := [(2, .int v110), (1, .int v29), (0, .ref am)]) hx hb dX13_inner_34 hl (k := 1) rfl e_v110 (by decide) rfl (fun ls hl => ?_)
          refine lv_goto (tgt := 4) hx hb dX13_inner_37 (by decide) ?_
          exact ih_l102 v110 v29 (by omega) (by omega) (by omega) (by rw [show v110.toInt.toNat = v28.toInt.toNat + 1 by omega]; exact inn.old hinn (by rw [show Ra 27 v28.toInt.toNat = v108 from e_v108]; omega)) (by omega) _ (lv_sub hl [0, 1, 2] rfl)
        · have hc109 : ¬ (v108.toInt < 31) := fun h9 => c9 ((fi_lt rfl (show (31 : Int32).toInt = 31 by decide)).mpr h9)
          refine lv_aload_n hx hb dX13_inner_23 rfl (lv_at hl 2 rfl) ?_
          refine mz_getR hx hb htl hown hK hM 27 (Nat.le_of_ble_eq_true rfl) (Nat.le_of_ble_eq_true rfl) (htl _ mw_200) (fun _ h9 => h9) dX13_inner_24 ?_
          refine lv_iload_n hx hb dX13_inner_27 rfl (lv_at hl 0 rfl) ?_
          refine mz_iald hx hb hK hM 27 (Nat.le_of_ble_eq_true rfl) rfl (nn := 400) rfl rfl (by omega) (by omega) dX13_inner_28 (fun v9 e9 => ?_)
          refine fx_ti (v := v108) (e9.symm.trans e_v108) ?_
          refine lv_goto (tgt := 33) hx hb dX13_inner_29 (by decide) ?_
          refine lv_istore_n (lv' := [(1, .int v108), (2, .int v28), (0, .ref am)]) hx hb dX13_inner_33 rfl hl (by decide) rfl (fun ls hl => ?_)
          obtain ⟨v111, h_v111, e_v111⟩ := tk_inc v28 1 (by decide) (by omega) (by omega)
          refine lv_iinc (v := v111) (lv' := [(2, .int v111), (1, .int v108), (0, .ref am)]) hx hb dX13_inner_34 hl (k := 1) rfl e_v111 (by decide) rfl (fun ls hl => ?_)
          refine lv_goto (tgt := 4) hx hb dX13_inner_37 (by decide) ?_
          exact ih_l102 v111 v108 (by omega) (by omega) (by omega) (by rw [show v111.toInt.toNat = v28.toInt.toNat + 1 by omega]; exact inn.new (by rw [show Ra 27 v28.toInt.toNat = v108 from e_v108]; omega) (by rw [show Ra 27 v28.toInt.toNat = v108 from e_v108])) (by omega) _ (lv_sub hl [0, 1, 2] rfl)
  have hk_0 : (0 : Int32).toInt = 0 := by decide
  have hk_m1 : ((-1) : Int32).toInt = (-1) := by decide
  exact hl102 401 0 (-1) (by omega) (by omega) (by omega) (show inn (Ra 27) ((0 : Int32).toInt.toNat) ((-1 : Int32).toInt) from inn.zero _) (by omega) _ (lv_sub hl [0, 1, 2] rfl)
