section
theorem dX13_areFoes_0 : decode cX13_areFoes 0 = .ok (.aload_n 0, 1) := by decide +kernel
theorem dX13_areFoes_1 : decode cX13_areFoes 1 = .ok (.iload_n 1, 1) := by decide +kernel
theorem dX13_areFoes_2 : decode cX13_areFoes 2 = .ok (.invokevirtual 201, 3) := by decide +kernel
theorem dX13_areFoes_5 : decode cX13_areFoes 5 = .ok (.ifCond .eq 30, 3) := by decide +kernel
theorem dX13_areFoes_35 : decode cX13_areFoes 35 = .ok (.iconst 0, 1) := by decide +kernel
theorem dX13_areFoes_36 : decode cX13_areFoes 36 = .ok (.ireturn, 1) := by decide +kernel
theorem dX13_areFoes_8 : decode cX13_areFoes 8 = .ok (.aload_n 0, 1) := by decide +kernel
theorem dX13_areFoes_9 : decode cX13_areFoes 9 = .ok (.iload_n 2, 1) := by decide +kernel
theorem dX13_areFoes_10 : decode cX13_areFoes 10 = .ok (.invokevirtual 201, 3) := by decide +kernel
theorem dX13_areFoes_13 : decode cX13_areFoes 13 = .ok (.ifCond .eq 22, 3) := by decide +kernel
theorem dX13_areFoes_16 : decode cX13_areFoes 16 = .ok (.aload_n 0, 1) := by decide +kernel
theorem dX13_areFoes_17 : decode cX13_areFoes 17 = .ok (.iload_n 1, 1) := by decide +kernel
theorem dX13_areFoes_18 : decode cX13_areFoes 18 = .ok (.iconst 2, 1) := by decide +kernel
theorem dX13_areFoes_19 : decode cX13_areFoes 19 = .ok (.invokevirtual 207, 3) := by decide +kernel
theorem dX13_areFoes_22 : decode cX13_areFoes 22 = .ok (.aload_n 0, 1) := by decide +kernel
theorem dX13_areFoes_23 : decode cX13_areFoes 23 = .ok (.iload_n 2, 1) := by decide +kernel
theorem dX13_areFoes_24 : decode cX13_areFoes 24 = .ok (.iconst 2, 1) := by decide +kernel
theorem dX13_areFoes_25 : decode cX13_areFoes 25 = .ok (.invokevirtual 207, 3) := by decide +kernel
theorem dX13_areFoes_28 : decode cX13_areFoes 28 = .ok (.if_icmp .eq 7, 3) := by decide +kernel
theorem dX13_areFoes_31 : decode cX13_areFoes 31 = .ok (.iconst 1, 1) := by decide +kernel
theorem dX13_areFoes_32 : decode cX13_areFoes 32 = .ok (.goto 4, 3) := by decide +kernel
set_option maxHeartbeats 4000000 in
set_option maxRecDepth 100000 in
theorem k_X13_areFoes (l : Launch) (D : va_G) (cy : Nat → ClassId) (ld ad : Nat → Nat) (am : Nat) (hD : mz_D ad am) (Fa : Nat → Int32) (Ga : Nat → Int64) (Ra : Nat → Nat → Int32) (Sa : Nat → Nat → Int64) (p1 : Int32) (p2 : Int32) (hIF : mz_IF false Fa) (hIG : mz_IG Ga) (hIR : mz_IR [] true Ra) : Met l yX13_areFoes (wl yX13_areFoes cX13_areFoes 3 (some .boolean)) ({ frames := 5, cells := 0, slots := 0, locals := 280 }) (mz_p D cy ld ad am Fa Ga Ra Sa [.ref am, .int p1, .int p2]) (mz_j D cy ad am Fa Ga Ra Sa (fun r => (1 ≤ r.toInt → 0 ≤ p1.toInt ∧ p1.toInt ≤ 7 ∧ 0 ≤ p2.toInt ∧ p2.toInt ≤ 7) ∧ 0 ≤ r.toInt ∧ r.toInt ≤ 1 ∧ 0 ≤ r.toInt ∧ r.toInt ≤ 1)) 0 0 (mz_W ad am) := by
  refine mz_met (y := yX13_areFoes) (cc := cX13_areFoes) (maxL := 3) (ret := (some .boolean)) (av := [.ref am, .int p1, .int p2]) _ (by decide) (Nat.le_of_ble_eq_true rfl) ?_
  intro p e s m args below meth c hx hb hr hml hts htl hown hlocks hK H locs hM hS ls hl
  have hown : s.vm.findClass RX13 = some m.cls := hown
  have hl : lv_has ls 3 [(0, .ref am), (1, .int p1), (2, .int p2)] := hl
  have hr_p1 := tk_rng p1
  have hr_p2 := tk_rng p2
  refine lv_aload_n hx hb dX13_areFoes_0 rfl (lv_at hl 0 rfl) ?_
  refine lv_iload_n hx hb dX13_areFoes_1 rfl (lv_at hl 1 rfl) ?_
  refine mz_Vj (As := [.int p1]) (rest := []) ⟨hx, hb, hml, hown, hts⟩ hK hM hS (k_X13_isSinger l D cy ld ad am hD _ _ _ _ p1 hIF hIG hIR) ⟨callB_of 1 hts (wl_in mw_320) rfl rfl rfl (htl _ mw_5) (htl _ mw_317) hd_yX13_isSinger ⟨(Nat.le_of_ble_eq_true rfl), (Nat.le_of_ble_eq_true rfl)⟩, htl _ mw_318, htl _ mw_319⟩ rfl hl.1 rfl (Nat.le_of_ble_eq_true rfl) dX13_areFoes_2 ⟨(Nat.le_of_ble_eq_true rfl), (Nat.le_of_ble_eq_true rfl)⟩ (fun v1 H locs hpo hM hS => ?_)
  obtain ⟨hpo2, hpo3, hpo4, hpo5, hpo6⟩ := hpo
  have hq_v1 := tk_rng v1
  refine lv_if_eq (tgt := 35) hx hb dX13_areFoes_5 (by decide) (fun c9 => ?_) (fun c9 => ?_)
  · have hc11 : v1.toInt = 0 := (fi_eq rfl (show (0 : Int32).toInt = 0 by decide)).mp c9
    refine lv_iconst (v := 0) hx hb dX13_areFoes_35 (by decide) ?_
    have hk_0 : (0 : Int32).toInt = 0 := by decide
    exact mz_jret (v := 0) hx hb hr rfl hlocks ⟨(by omega), (by omega), (by omega), (by omega), (by omega)⟩ hM hS dX13_areFoes_36
  · have hc11 : ¬ (v1.toInt = 0) := fun h9 => c9 ((fi_eq rfl (show (0 : Int32).toInt = 0 by decide)).mpr h9)
    have hwk_12 : 0 ≤ p1.toInt ∧ p1.toInt ≤ 7 := by omega
    refine lv_aload_n hx hb dX13_areFoes_8 rfl (lv_at hl 0 rfl) ?_
    refine lv_iload_n hx hb dX13_areFoes_9 rfl (lv_at hl 2 rfl) ?_
    refine mz_Vj (As := [.int p2]) (rest := []) ⟨hx, hb, hml, hown, hts⟩ hK hM hS (k_X13_isSinger l D cy ld ad am hD _ _ _ _ p2 hIF hIG hIR) ⟨callB_of 1 hts (wl_in mw_320) rfl rfl rfl (htl _ mw_5) (htl _ mw_317) hd_yX13_isSinger ⟨(Nat.le_of_ble_eq_true rfl), (Nat.le_of_ble_eq_true rfl)⟩, htl _ mw_318, htl _ mw_319⟩ rfl hl.1 rfl (Nat.le_of_ble_eq_true rfl) dX13_areFoes_10 ⟨(Nat.le_of_ble_eq_true rfl), (Nat.le_of_ble_eq_true rfl)⟩ (fun v13 H locs hpo hM hS => ?_)
    obtain ⟨hpo14, hpo15, hpo16, hpo17, hpo18⟩ := hpo
    have hq_v13 := tk_rng v13
    refine lv_if_eq (tgt := 35) hx hb dX13_areFoes_13 (by decide) (fun c9 => ?_) (fun c9 => ?_)
    · have hc20 : v13.toInt = 0 := (fi_eq rfl (show (0 : Int32).toInt = 0 by decide)).mp c9
      refine lv_iconst (v := 0) hx hb dX13_areFoes_35 (by decide) ?_
      have hk_0 : (0 : Int32).toInt = 0 := by decide
      exact mz_jret (v := 0) hx hb hr rfl hlocks ⟨(by omega), (by omega), (by omega), (by omega), (by omega)⟩ hM hS dX13_areFoes_36
    · have hc20 : ¬ (v13.toInt = 0) := fun h9 => c9 ((fi_eq rfl (show (0 : Int32).toInt = 0 by decide)).mpr h9)
      have hwk_21 : 0 ≤ p2.toInt ∧ p2.toInt ≤ 7 := by omega
      refine lv_aload_n hx hb dX13_areFoes_16 rfl (lv_at hl 0 rfl) ?_
      refine lv_iload_n hx hb dX13_areFoes_17 rfl (lv_at hl 1 rfl) ?_
      refine lv_iconst (v := 2) hx hb dX13_areFoes_18 (by decide) ?_
      have hk_2 : (2 : Int32).toInt = 2 := by decide
      refine mz_Vj (As := [.int p1, .int 2]) (rest := []) ⟨hx, hb, hml, hown, hts⟩ hK hM hS (k_X13_ofSinger_2 l D cy ld ad am hD _ _ _ _ p1 hIF hIG hIR (by omega) (by omega)) ⟨callB_of 2 hts (wl_in mw_324) rfl rfl rfl (htl _ mw_5) (htl _ mw_321) hd_yX13_ofSinger ⟨(Nat.le_of_ble_eq_true rfl), (Nat.le_of_ble_eq_true rfl)⟩, htl _ mw_322, htl _ mw_323⟩ rfl hl.1 rfl (Nat.le_of_ble_eq_true rfl) dX13_areFoes_19 ⟨(Nat.le_of_ble_eq_true rfl), (Nat.le_of_ble_eq_true rfl)⟩ (fun v22 H locs hpo hM hS => ?_)
      obtain ⟨hpo23, hpo24⟩ := hpo
      have hq_v22 := tk_rng v22
      refine lv_aload_n hx hb dX13_areFoes_22 rfl (lv_at hl 0 rfl) ?_
      refine lv_iload_n hx hb dX13_areFoes_23 rfl (lv_at hl 2 rfl) ?_
      refine lv_iconst (v := 2) hx hb dX13_areFoes_24 (by decide) ?_
      have hk_2 : (2 : Int32).toInt = 2 := by decide
      refine mz_Vj (As := [.int p2, .int 2]) (rest := [.int v22]) ⟨hx, hb, hml, hown, hts⟩ hK hM hS (k_X13_ofSinger_2 l D cy ld ad am hD _ _ _ _ p2 hIF hIG hIR (by omega) (by omega)) ⟨callB_of 2 hts (wl_in mw_324) rfl rfl rfl (htl _ mw_5) (htl _ mw_321) hd_yX13_ofSinger ⟨(Nat.le_of_ble_eq_true rfl), (Nat.le_of_ble_eq_true rfl)⟩, htl _ mw_322, htl _ mw_323⟩ rfl hl.1 rfl (Nat.le_of_ble_eq_true rfl) dX13_areFoes_25 ⟨(Nat.le_of_ble_eq_true rfl), (Nat.le_of_ble_eq_true rfl)⟩ (fun v26 H locs hpo hM hS => ?_)
      obtain ⟨hpo27, hpo28⟩ := hpo
      have hq_v26 := tk_rng v26
      refine lv_icmp_eq (tgt := 35) hx hb dX13_areFoes_28 (by decide) (fun c9 => ?_) (fun c9 => ?_)
      · have hc30 : v22.toInt = v26.toInt := (fi_eq rfl rfl).mp c9
        refine lv_iconst (v := 0) hx hb dX13_areFoes_35 (by decide) ?_
        have hk_0 : (0 : Int32).toInt = 0 := by decide
        exact mz_jret (v := 0) hx hb hr rfl hlocks ⟨(by omega), (by omega), (by omega), (by omega), (by omega)⟩ hM hS dX13_areFoes_36
      · have hc30 : ¬ (v22.toInt = v26.toInt) := fun h9 => c9 ((fi_eq rfl rfl).mpr h9)
        refine lv_iconst (v := 1) hx hb dX13_areFoes_31 (by decide) ?_
        refine lv_goto (tgt := 36) hx hb dX13_areFoes_32 (by decide) ?_
        have hk_1 : (1 : Int32).toInt = 1 := by decide
        exact mz_jret (v := 1) hx hb hr rfl hlocks ⟨(by omega), (by omega), (by omega), (by omega), (by omega)⟩ hM hS dX13_areFoes_36
end
section
theorem dX13_isSpare_0 : decode cX13_isSpare 0 = .ok (.aload_n 0, 1) := by decide +kernel
theorem dX13_isSpare_1 : decode cX13_isSpare 1 = .ok (.getfield 134, 3) := by decide +kernel
theorem dX13_isSpare_4 : decode cX13_isSpare 4 = .ok (.iload_n 1, 1) := by decide +kernel
theorem dX13_isSpare_5 : decode cX13_isSpare 5 = .ok (.iaload, 1) := by decide +kernel
theorem dX13_isSpare_6 : decode cX13_isSpare 6 = .ok (.bipush 8, 2) := by decide +kernel
theorem dX13_isSpare_44 : decode cX13_isSpare 44 = .ok (.istore_n 2, 1) := by decide +kernel
theorem dX13_isSpare_45 : decode cX13_isSpare 45 = .ok (.iconst 0, 1) := by decide +kernel
theorem dX13_isSpare_46 : decode cX13_isSpare 46 = .ok (.istore_n 3, 1) := by decide +kernel
theorem dX13_isSpare_47 : decode cX13_isSpare 47 = .ok (.iload_n 3, 1) := by decide +kernel
theorem dX13_isSpare_48 : decode cX13_isSpare 48 = .ok (.iload_n 1, 1) := by decide +kernel
theorem dX13_isSpare_94 : decode cX13_isSpare 94 = .ok (.iload_n 2, 1) := by decide +kernel
theorem dX13_isSpare_95 : decode cX13_isSpare 95 = .ok (.ireturn, 1) := by decide +kernel
theorem dX13_isSpare_49 : decode cX13_isSpare 49 = .ok (.if_icmp .ge 45, 3) := by decide +kernel
theorem dX13_isSpare_52 : decode cX13_isSpare 52 = .ok (.aload_n 0, 1) := by decide +kernel
theorem dX13_isSpare_53 : decode cX13_isSpare 53 = .ok (.getfield 134, 3) := by decide +kernel
theorem dX13_isSpare_56 : decode cX13_isSpare 56 = .ok (.iload_n 1, 1) := by decide +kernel
theorem dX13_isSpare_57 : decode cX13_isSpare 57 = .ok (.iaload, 1) := by decide +kernel
theorem dX13_isSpare_58 : decode cX13_isSpare 58 = .ok (.bipush 8, 2) := by decide +kernel
theorem dX13_isSpare_60 : decode cX13_isSpare 60 = .ok (.if_icmp .ge 34, 3) := by decide +kernel
theorem dX13_isSpare_63 : decode cX13_isSpare 63 = .ok (.iload_n 2, 1) := by decide +kernel
theorem dX13_isSpare_87 : decode cX13_isSpare 87 = .ok (.istore_n 2, 1) := by decide +kernel
theorem dX13_isSpare_88 : decode cX13_isSpare 88 = .ok (.iinc 3 1, 3) := by decide +kernel
theorem dX13_isSpare_91 : decode cX13_isSpare 91 = .ok (.goto (-44), 3) := by decide +kernel
theorem dX13_isSpare_64 : decode cX13_isSpare 64 = .ok (.ifCond .eq 22, 3) := by decide +kernel
theorem dX13_isSpare_86 : decode cX13_isSpare 86 = .ok (.iconst 0, 1) := by decide +kernel
theorem dX13_isSpare_67 : decode cX13_isSpare 67 = .ok (.aload_n 0, 1) := by decide +kernel
theorem dX13_isSpare_68 : decode cX13_isSpare 68 = .ok (.getfield 134, 3) := by decide +kernel
theorem dX13_isSpare_71 : decode cX13_isSpare 71 = .ok (.iload_n 3, 1) := by decide +kernel
theorem dX13_isSpare_72 : decode cX13_isSpare 72 = .ok (.iaload, 1) := by decide +kernel
theorem dX13_isSpare_73 : decode cX13_isSpare 73 = .ok (.aload_n 0, 1) := by decide +kernel
theorem dX13_isSpare_74 : decode cX13_isSpare 74 = .ok (.getfield 134, 3) := by decide +kernel
theorem dX13_isSpare_77 : decode cX13_isSpare 77 = .ok (.iload_n 1, 1) := by decide +kernel
theorem dX13_isSpare_78 : decode cX13_isSpare 78 = .ok (.iaload, 1) := by decide +kernel
theorem dX13_isSpare_79 : decode cX13_isSpare 79 = .ok (.if_icmp .eq 7, 3) := by decide +kernel
theorem dX13_isSpare_82 : decode cX13_isSpare 82 = .ok (.iconst 1, 1) := by decide +kernel
theorem dX13_isSpare_83 : decode cX13_isSpare 83 = .ok (.goto 4, 3) := by decide +kernel
theorem dX13_isSpare_8 : decode cX13_isSpare 8 = .ok (.if_icmp .eq 31, 3) := by decide +kernel
theorem dX13_isSpare_39 : decode cX13_isSpare 39 = .ok (.iconst 1, 1) := by decide +kernel
theorem dX13_isSpare_40 : decode cX13_isSpare 40 = .ok (.goto 4, 3) := by decide +kernel
theorem dX13_isSpare_11 : decode cX13_isSpare 11 = .ok (.aload_n 0, 1) := by decide +kernel
theorem dX13_isSpare_12 : decode cX13_isSpare 12 = .ok (.aload_n 0, 1) := by decide +kernel
theorem dX13_isSpare_13 : decode cX13_isSpare 13 = .ok (.getfield 134, 3) := by decide +kernel
theorem dX13_isSpare_16 : decode cX13_isSpare 16 = .ok (.iload_n 1, 1) := by decide +kernel
theorem dX13_isSpare_17 : decode cX13_isSpare 17 = .ok (.iaload, 1) := by decide +kernel
theorem dX13_isSpare_18 : decode cX13_isSpare 18 = .ok (.invokevirtual 201, 3) := by decide +kernel
theorem dX13_isSpare_21 : decode cX13_isSpare 21 = .ok (.ifCond .eq 22, 3) := by decide +kernel
theorem dX13_isSpare_43 : decode cX13_isSpare 43 = .ok (.iconst 0, 1) := by decide +kernel
theorem dX13_isSpare_24 : decode cX13_isSpare 24 = .ok (.aload_n 0, 1) := by decide +kernel
theorem dX13_isSpare_25 : decode cX13_isSpare 25 = .ok (.aload_n 0, 1) := by decide +kernel
theorem dX13_isSpare_26 : decode cX13_isSpare 26 = .ok (.getfield 134, 3) := by decide +kernel
theorem dX13_isSpare_29 : decode cX13_isSpare 29 = .ok (.iload_n 1, 1) := by decide +kernel
theorem dX13_isSpare_30 : decode cX13_isSpare 30 = .ok (.iaload, 1) := by decide +kernel
theorem dX13_isSpare_31 : decode cX13_isSpare 31 = .ok (.iconst 2, 1) := by decide +kernel
theorem dX13_isSpare_32 : decode cX13_isSpare 32 = .ok (.invokevirtual 207, 3) := by decide +kernel
theorem dX13_isSpare_35 : decode cX13_isSpare 35 = .ok (.iconst 1, 1) := by decide +kernel
theorem dX13_isSpare_36 : decode cX13_isSpare 36 = .ok (.if_icmp .ne 7, 3) := by decide +kernel
set_option maxHeartbeats 4000000 in
set_option maxRecDepth 100000 in
theorem k_X13_isSpare (l : Launch) (D : va_G) (cy : Nat → ClassId) (ld ad : Nat → Nat) (am : Nat) (hD : mz_D ad am) (Fa : Nat → Int32) (Ga : Nat → Int64) (Ra : Nat → Nat → Int32) (Sa : Nat → Nat → Int64) (p1 : Int32) (hIF : mz_IF false Fa) (hIG : mz_IG Ga) (hIR : mz_IR [] true Ra) (hp_0 : 0 ≤ p1.toInt) (hp_1 : p1.toInt ≤ 7) : Met l yX13_isSpare (wl yX13_isSpare cX13_isSpare 4 (some .boolean)) ({ frames := 5, cells := 0, slots := 0, locals := 280 }) (mz_p D cy ld ad am Fa Ga Ra Sa [.ref am, .int p1]) (mz_j D cy ad am Fa Ga Ra Sa (fun r => 0 ≤ r.toInt ∧ r.toInt ≤ 1 ∧ 0 ≤ r.toInt ∧ r.toInt ≤ 1)) 0 0 (mz_W ad am) := by
  refine mz_met (y := yX13_isSpare) (cc := cX13_isSpare) (maxL := 4) (ret := (some .boolean)) (av := [.ref am, .int p1]) _ (by decide) (Nat.le_of_ble_eq_true rfl) ?_
  intro p e s m args below meth c hx hb hr hml hts htl hown hlocks hK H locs hM hS ls hl
  have hown : s.vm.findClass RX13 = some m.cls := hown
  have hl : lv_has ls 4 [(0, .ref am), (1, .int p1)] := hl
  have hr_p1 := tk_rng p1
  refine lv_aload_n hx hb dX13_isSpare_0 rfl (lv_at hl 0 rfl) ?_
  refine mz_getR hx hb htl hown hK hM 51 (Nat.le_of_ble_eq_true rfl) (Nat.le_of_ble_eq_true rfl) (htl _ mw_234) (fun _ h9 => h9) dX13_isSpare_1 ?_
  refine lv_iload_n hx hb dX13_isSpare_4 rfl (lv_at hl 1 rfl) ?_
  refine mz_iald hx hb hK hM 51 (Nat.le_of_ble_eq_true rfl) rfl (nn := 8) rfl rfl (by omega) (by omega) dX13_isSpare_5 (fun v1 e_v1 => ?_)
  have hq_v1 := tk_rng v1
  refine lv_bipush (v := 8) hx hb dX13_isSpare_6 (by decide) ?_
  have hj23 : ∀ (v21 : Int32) (H : Heap) (locs : List Loc), (0 ≤ v21.toInt) → (v21.toInt ≤ 1) → (mz_S D cy ad am Fa Ga Ra Sa H) → (va_S (mz_W ad am) s.heap H locs) → ∀ ls : Array Slot, lv_has ls 4 [(0, .ref am), (1, .int p1)] → W p l e ({ frames := 5, cells := 0, slots := 0, locals := 280 }) s m args below meth c H locs 0 0 (MQ below (mz_j D cy ad am Fa Ga Ra Sa (fun r => 0 ≤ r.toInt ∧ r.toInt ≤ 1 ∧ 0 ≤ r.toInt ∧ r.toInt ≤ 1)) args s 0 0 (mz_W ad am)) (F0 m 44 ls [.int v21]) := by
    intro v21 H locs hq0_j23 hq1_j23 hM hS ls hl
    refine lv_istore_n (lv' := [(2, .int v21), (0, .ref am), (1, .int p1)]) hx hb dX13_isSpare_44 rfl hl (by decide) rfl (fun ls hl => ?_)
    refine lv_iconst (v := 0) hx hb dX13_isSpare_45 (by decide) ?_
    refine lv_istore_n (lv' := [(3, .int 0), (2, .int v21), (0, .ref am), (1, .int p1)]) hx hb dX13_isSpare_46 rfl hl (by decide) rfl (fun ls hl => ?_)
    have hl224 : ∀ (N_l224 : Nat) (v78 : Int32) (v79 : Int32), (0 ≤ v79.toInt) → (0 ≤ v78.toInt) → (0 ≤ p1.toInt + (-1) * v78.toInt) → (0 ≤ v21.toInt + (-1) * v79.toInt) → ((-1) * v78.toInt + 7 < (N_l224 : Int)) → ∀ ls : Array Slot, lv_has ls 4 [(3, .int v78), (2, .int v79), (0, .ref am), (1, .int p1)] → W p l e ({ frames := 5, cells := 0, slots := 0, locals := 280 }) s m args below meth c H locs 0 0 (MQ below (mz_j D cy ad am Fa Ga Ra Sa (fun r => 0 ≤ r.toInt ∧ r.toInt ≤ 1 ∧ 0 ≤ r.toInt ∧ r.toInt ≤ 1)) args s 0 0 (mz_W ad am)) (F0 m 47 ls []) := by
      intro N_l224
      induction N_l224 with
      | zero => intro v78 v79 hq0_l224 hq1_l224 hq2_l224 hq3_l224 hm_l224 ls hl; exfalso; omega
      | succ N_l224 ih_l224 =>
        intro v78 v79 hq0_l224 hq1_l224 hq2_l224 hq3_l224 hm_l224 ls hl
        refine lv_iload_n hx hb dX13_isSpare_47 rfl (lv_at hl 0 rfl) ?_
        refine lv_iload_n hx hb dX13_isSpare_48 rfl (lv_at hl 3 rfl) ?_
        have hj237 : ∀ (_ : Unit), ∀ ls : Array Slot, lv_has ls 4 [(2, .int v79)] → W p l e ({ frames := 5, cells := 0, slots := 0, locals := 280 }) s m args below meth c H locs 0 0 (MQ below (mz_j D cy ad am Fa Ga Ra Sa (fun r => 0 ≤ r.toInt ∧ r.toInt ≤ 1 ∧ 0 ≤ r.toInt ∧ r.toInt ≤ 1)) args s 0 0 (mz_W ad am)) (F0 m 94 ls []) := by
          intro _  ls hl
          refine lv_iload_n hx hb dX13_isSpare_94 rfl (lv_at hl 0 rfl) ?_
          exact mz_jret (v := v79) hx hb hr (tk_nz (by omega) (by omega)) hlocks ⟨(by omega), (by omega), (by omega), (by omega)⟩ hM hS dX13_isSpare_95
        refine lv_icmp_ge (tgt := 94) hx hb dX13_isSpare_49 (by decide) (fun c9 => ?_) (fun c9 => ?_)
        · have hc225 : p1.toInt ≤ v78.toInt := (fi_le rfl rfl).mp c9
          exact hj237 () _ (lv_sub hl [1] rfl)
        · have hc225 : ¬ (p1.toInt ≤ v78.toInt) := fun h9 => c9 ((fi_le rfl rfl).mpr h9)
          refine lv_aload_n hx hb dX13_isSpare_52 rfl (lv_at hl 2 rfl) ?_
          refine mz_getR hx hb htl hown hK hM 51 (Nat.le_of_ble_eq_true rfl) (Nat.le_of_ble_eq_true rfl) (htl _ mw_234) (fun _ h9 => h9) dX13_isSpare_53 ?_
          refine lv_iload_n hx hb dX13_isSpare_56 rfl (lv_at hl 3 rfl) ?_
          refine mz_iald hx hb hK hM 51 (Nat.le_of_ble_eq_true rfl) rfl (nn := 8) rfl rfl (by omega) (by omega) dX13_isSpare_57 (fun v238 e_v238 => ?_)
          have hq_v238 := tk_rng v238
          refine lv_bipush (v := 8) hx hb dX13_isSpare_58 (by decide) ?_
          refine lv_icmp_ge (tgt := 94) hx hb dX13_isSpare_60 (by decide) (fun c9 => ?_) (fun c9 => ?_)
          · have hc239 : 8 ≤ v238.toInt := (fi_le (show (8 : Int32).toInt = 8 by decide) rfl).mp c9
            exact hj237 () _ (lv_sub hl [1] rfl)
          · have hc239 : ¬ (8 ≤ v238.toInt) := fun h9 => c9 ((fi_le (show (8 : Int32).toInt = 8 by decide) rfl).mpr h9)
            refine lv_iload_n hx hb dX13_isSpare_63 rfl (lv_at hl 1 rfl) ?_
            have hj245 : ∀ (v244 : Int32), (0 ≤ v244.toInt) → (0 ≤ (-1) * v244.toInt + v79.toInt) → ∀ ls : Array Slot, lv_has ls 4 [(3, .int v78), (0, .ref am), (1, .int p1)] → W p l e ({ frames := 5, cells := 0, slots := 0, locals := 280 }) s m args below meth c H locs 0 0 (MQ below (mz_j D cy ad am Fa Ga Ra Sa (fun r => 0 ≤ r.toInt ∧ r.toInt ≤ 1 ∧ 0 ≤ r.toInt ∧ r.toInt ≤ 1)) args s 0 0 (mz_W ad am)) (F0 m 87 ls [.int v244]) := by
              intro v244 hq0_j245 hq1_j245 ls hl
              refine lv_istore_n (lv' := [(2, .int v244), (3, .int v78), (0, .ref am), (1, .int p1)]) hx hb dX13_isSpare_87 rfl hl (by decide) rfl (fun ls hl => ?_)
              obtain ⟨v246, h_v246, e_v246⟩ := tk_inc v78 1 (by decide) (by omega) (by omega)
              refine lv_iinc (v := v246) (lv' := [(3, .int v246), (2, .int v244), (0, .ref am), (1, .int p1)]) hx hb dX13_isSpare_88 hl (k := 1) rfl e_v246 (by decide) rfl (fun ls hl => ?_)
              refine lv_goto (tgt := 47) hx hb dX13_isSpare_91 (by decide) ?_
              exact ih_l224 v246 v244 (by omega) (by omega) (by omega) (by omega) (by omega) _ (lv_sub hl [0, 1, 2, 3] rfl)
            refine lv_if_eq (tgt := 86) hx hb dX13_isSpare_64 (by decide) (fun c9 => ?_) (fun c9 => ?_)
            · have hc240 : v79.toInt = 0 := (fi_eq rfl (show (0 : Int32).toInt = 0 by decide)).mp c9
              refine lv_iconst (v := 0) hx hb dX13_isSpare_86 (by decide) ?_
              have hk_0 : (0 : Int32).toInt = 0 := by decide
              exact hj245 0 (by omega) (by omega) _ (lv_sub hl [0, 2, 3] rfl)
            · have hc240 : ¬ (v79.toInt = 0) := fun h9 => c9 ((fi_eq rfl (show (0 : Int32).toInt = 0 by decide)).mpr h9)
              refine lv_aload_n hx hb dX13_isSpare_67 rfl (lv_at hl 2 rfl) ?_
              refine mz_getR hx hb htl hown hK hM 51 (Nat.le_of_ble_eq_true rfl) (Nat.le_of_ble_eq_true rfl) (htl _ mw_234) (fun _ h9 => h9) dX13_isSpare_68 ?_
              refine lv_iload_n hx hb dX13_isSpare_71 rfl (lv_at hl 0 rfl) ?_
              refine mz_iald hx hb hK hM 51 (Nat.le_of_ble_eq_true rfl) rfl (nn := 8) rfl rfl (by omega) (by omega) dX13_isSpare_72 (fun v247 e_v247 => ?_)
              have hq_v247 := tk_rng v247
              refine lv_aload_n hx hb dX13_isSpare_73 rfl (lv_at hl 2 rfl) ?_
              refine mz_getR hx hb htl hown hK hM 51 (Nat.le_of_ble_eq_true rfl) (Nat.le_of_ble_eq_true rfl) (htl _ mw_234) (fun _ h9 => h9) dX13_isSpare_74 ?_
              refine lv_iload_n hx hb dX13_isSpare_77 rfl (lv_at hl 3 rfl) ?_
              refine mz_iald hx hb hK hM 51 (Nat.le_of_ble_eq_true rfl) rfl (nn := 8) rfl rfl (by omega) (by omega) dX13_isSpare_78 (fun v9 e9 => ?_)
              refine fx_ti (v := v238) (e9.symm.trans e_v238) ?_
              refine lv_icmp_eq (tgt := 86) hx hb dX13_isSpare_79 (by decide) (fun c9 => ?_) (fun c9 => ?_)
              · have hc248 : v247.toInt = v238.toInt := (fi_eq rfl rfl).mp c9
                refine lv_iconst (v := 0) hx hb dX13_isSpare_86 (by decide) ?_
                have hk_0 : (0 : Int32).toInt = 0 := by decide
                exact hj245 0 (by omega) (by omega) _ (lv_sub hl [0, 2, 3] rfl)
              · have hc248 : ¬ (v247.toInt = v238.toInt) := fun h9 => c9 ((fi_eq rfl rfl).mpr h9)
                refine lv_iconst (v := 1) hx hb dX13_isSpare_82 (by decide) ?_
                refine lv_goto (tgt := 87) hx hb dX13_isSpare_83 (by decide) ?_
                have hk_1 : (1 : Int32).toInt = 1 := by decide
                exact hj245 1 (by omega) (by omega) _ (lv_sub hl [0, 2, 3] rfl)
    have hk_0 : (0 : Int32).toInt = 0 := by decide
    exact hl224 8 0 v21 (by omega) (by omega) (by omega) (by omega) (by omega) _ (lv_sub hl [0, 1, 2, 3] rfl)
  refine lv_icmp_eq (tgt := 39) hx hb dX13_isSpare_8 (by decide) (fun c9 => ?_) (fun c9 => ?_)
  · have hc2 : v1.toInt = 8 := (fi_eq rfl (show (8 : Int32).toInt = 8 by decide)).mp c9
    refine lv_iconst (v := 1) hx hb dX13_isSpare_39 (by decide) ?_
    refine lv_goto (tgt := 44) hx hb dX13_isSpare_40 (by decide) ?_
    have hk_1 : (1 : Int32).toInt = 1 := by decide
    exact hj23 1 _ _ (by omega) (by omega) hM hS _ (lv_sub hl [0, 1] rfl)
  · have hc2 : ¬ (v1.toInt = 8) := fun h9 => c9 ((fi_eq rfl (show (8 : Int32).toInt = 8 by decide)).mpr h9)
    refine lv_aload_n hx hb dX13_isSpare_11 rfl (lv_at hl 0 rfl) ?_
    refine lv_aload_n hx hb dX13_isSpare_12 rfl (lv_at hl 0 rfl) ?_
    refine mz_getR hx hb htl hown hK hM 51 (Nat.le_of_ble_eq_true rfl) (Nat.le_of_ble_eq_true rfl) (htl _ mw_234) (fun _ h9 => h9) dX13_isSpare_13 ?_
    refine lv_iload_n hx hb dX13_isSpare_16 rfl (lv_at hl 1 rfl) ?_
    refine mz_iald hx hb hK hM 51 (Nat.le_of_ble_eq_true rfl) rfl (nn := 8) rfl rfl (by omega) (by omega) dX13_isSpare_17 (fun v9 e9 => ?_)
    refine fx_ti (v := v1) (e9.symm.trans e_v1) ?_
    refine mz_Vj (As := [.int v1]) (rest := []) ⟨hx, hb, hml, hown, hts⟩ hK hM hS (k_X13_isSinger l D cy ld ad am hD _ _ _ _ v1 hIF hIG hIR) ⟨callB_of 1 hts (wl_in mw_320) rfl rfl rfl (htl _ mw_5) (htl _ mw_317) hd_yX13_isSinger ⟨(Nat.le_of_ble_eq_true rfl), (Nat.le_of_ble_eq_true rfl)⟩, htl _ mw_318, htl _ mw_319⟩ rfl hl.1 rfl (Nat.le_of_ble_eq_true rfl) dX13_isSpare_18 ⟨(Nat.le_of_ble_eq_true rfl), (Nat.le_of_ble_eq_true rfl)⟩ (fun v249 H locs hpo hM hS => ?_)
    obtain ⟨hpo250, hpo251, hpo252, hpo253, hpo254⟩ := hpo
    have hq_v249 := tk_rng v249
    refine lv_if_eq (tgt := 43) hx hb dX13_isSpare_21 (by decide) (fun c9 => ?_) (fun c9 => ?_)
    · have hc256 : v249.toInt = 0 := (fi_eq rfl (show (0 : Int32).toInt = 0 by decide)).mp c9
      refine lv_iconst (v := 0) hx hb dX13_isSpare_43 (by decide) ?_
      have hk_0 : (0 : Int32).toInt = 0 := by decide
      exact hj23 0 _ _ (by omega) (by omega) hM hS _ (lv_sub hl [0, 1] rfl)
    · have hc256 : ¬ (v249.toInt = 0) := fun h9 => c9 ((fi_eq rfl (show (0 : Int32).toInt = 0 by decide)).mpr h9)
      have hwk_257 : 0 ≤ v1.toInt ∧ v1.toInt ≤ 7 := by omega
      refine lv_aload_n hx hb dX13_isSpare_24 rfl (lv_at hl 0 rfl) ?_
      refine lv_aload_n hx hb dX13_isSpare_25 rfl (lv_at hl 0 rfl) ?_
      refine mz_getR hx hb htl hown hK hM 51 (Nat.le_of_ble_eq_true rfl) (Nat.le_of_ble_eq_true rfl) (htl _ mw_234) (fun _ h9 => h9) dX13_isSpare_26 ?_
      refine lv_iload_n hx hb dX13_isSpare_29 rfl (lv_at hl 1 rfl) ?_
      refine mz_iald hx hb hK hM 51 (Nat.le_of_ble_eq_true rfl) rfl (nn := 8) rfl rfl (by omega) (by omega) dX13_isSpare_30 (fun v9 e9 => ?_)
      refine fx_ti (v := v1) (e9.symm.trans e_v1) ?_
      refine lv_iconst (v := 2) hx hb dX13_isSpare_31 (by decide) ?_
      have hk_2 : (2 : Int32).toInt = 2 := by decide
      refine mz_Vj (As := [.int v1, .int 2]) (rest := []) ⟨hx, hb, hml, hown, hts⟩ hK hM hS (k_X13_ofSinger_2 l D cy ld ad am hD _ _ _ _ v1 hIF hIG hIR (by omega) (by omega)) ⟨callB_of 2 hts (wl_in mw_324) rfl rfl rfl (htl _ mw_5) (htl _ mw_321) hd_yX13_ofSinger ⟨(Nat.le_of_ble_eq_true rfl), (Nat.le_of_ble_eq_true rfl)⟩, htl _ mw_322, htl _ mw_323⟩ rfl hl.1 rfl (Nat.le_of_ble_eq_true rfl) dX13_isSpare_32 ⟨(Nat.le_of_ble_eq_true rfl), (Nat.le_of_ble_eq_true rfl)⟩ (fun v258 H locs hpo hM hS => ?_)
      obtain ⟨hpo259, hpo260⟩ := hpo
      have hq_v258 := tk_rng v258
      refine lv_iconst (v := 1) hx hb dX13_isSpare_35 (by decide) ?_
      refine lv_icmp_ne (tgt := 43) hx hb dX13_isSpare_36 (by decide) (fun c9 => ?_) (fun c9 => ?_)
      · have hc262 : ¬ (v258.toInt = 1) := fun h9 => c9 ((fi_eq rfl (show (1 : Int32).toInt = 1 by decide)).mpr h9)
        refine lv_iconst (v := 0) hx hb dX13_isSpare_43 (by decide) ?_
        have hk_0 : (0 : Int32).toInt = 0 := by decide
        exact hj23 0 _ _ (by omega) (by omega) hM hS _ (lv_sub hl [0, 1] rfl)
      · have hc262 : v258.toInt = 1 := (fi_eq rfl (show (1 : Int32).toInt = 1 by decide)).mp c9
        refine lv_iconst (v := 1) hx hb dX13_isSpare_39 (by decide) ?_
        refine lv_goto (tgt := 44) hx hb dX13_isSpare_40 (by decide) ?_
        have hk_1 : (1 : Int32).toInt = 1 := by decide
        exact hj23 1 _ _ (by omega) (by omega) hM hS _ (lv_sub hl [0, 1] rfl)
end
section
theorem dX13_ofPiece_0 : decode cX13_ofPiece 0 = .ok (.aload_n 0, 1) := by decide +kernel
theorem dX13_ofPiece_1 : decode cX13_ofPiece 1 = .ok (.getfield 13, 3) := by decide +kernel
theorem dX13_ofPiece_4 : decode cX13_ofPiece 4 = .ok (.bipush 78, 2) := by decide +kernel
theorem dX13_ofPiece_6 : decode cX13_ofPiece 6 = .ok (.iconst 3, 1) := by decide +kernel
theorem dX13_ofPiece_7 : decode cX13_ofPiece 7 = .ok (.iload_n 1, 1) := by decide +kernel
theorem dX13_ofPiece_8 : decode cX13_ofPiece 8 = .ok (.imul, 1) := by decide +kernel
theorem dX13_ofPiece_9 : decode cX13_ofPiece 9 = .ok (.iadd, 1) := by decide +kernel
theorem dX13_ofPiece_10 : decode cX13_ofPiece 10 = .ok (.iload_n 2, 1) := by decide +kernel
theorem dX13_ofPiece_11 : decode cX13_ofPiece 11 = .ok (.iadd, 1) := by decide +kernel
theorem dX13_ofPiece_12 : decode cX13_ofPiece 12 = .ok (.iaload, 1) := by decide +kernel
theorem dX13_ofPiece_13 : decode cX13_ofPiece 13 = .ok (.ireturn, 1) := by decide +kernel
set_option maxHeartbeats 4000000 in
set_option maxRecDepth 100000 in
theorem k_X13_ofPiece (l : Launch) (D : va_G) (cy : Nat → ClassId) (ld ad : Nat → Nat) (am : Nat) (hD : mz_D ad am) (Fa : Nat → Int32) (Ga : Nat → Int64) (Ra : Nat → Nat → Int32) (Sa : Nat → Nat → Int64) (p1 : Int32) (p2 : Int32) (hIF : mz_IF false Fa) (hIG : mz_IG Ga) (hIR : mz_IR [] true Ra) (hp_0 : (-1) ≤ p1.toInt) (hp_1 : p1.toInt ≤ 10) (hp_2 : 0 ≤ p2.toInt) (hp_3 : p2.toInt ≤ 2) : Met l yX13_ofPiece (wl yX13_ofPiece cX13_ofPiece 3 (some .int)) ({ frames := 3, cells := 0, slots := 0, locals := 140 }) (mz_p D cy ld ad am Fa Ga Ra Sa [.ref am, .int p1, .int p2]) (mz_j D cy ad am Fa Ga Ra Sa (fun r => True)) 0 0 (mz_W ad am) := by
  refine mz_met (y := yX13_ofPiece) (cc := cX13_ofPiece) (maxL := 3) (ret := (some .int)) (av := [.ref am, .int p1, .int p2]) _ (by decide) (Nat.le_of_ble_eq_true rfl) ?_
  intro p e s m args below meth c hx hb hr hml hts htl hown hlocks hK H locs hM hS ls hl
  have hown : s.vm.findClass RX13 = some m.cls := hown
  have hl : lv_has ls 3 [(0, .ref am), (1, .int p1), (2, .int p2)] := hl
  have hr_p1 := tk_rng p1
  have hr_p2 := tk_rng p2
  refine lv_aload_n hx hb dX13_ofPiece_0 rfl (lv_at hl 0 rfl) ?_
  refine mz_getR hx hb htl hown hK hM 3 (Nat.le_of_ble_eq_true rfl) (Nat.le_of_ble_eq_true rfl) (htl _ mw_188) (fun _ h9 => h9) dX13_ofPiece_1 ?_
  refine lv_bipush (v := 78) hx hb dX13_ofPiece_4 (by decide) ?_
  refine lv_iconst (v := 3) hx hb dX13_ofPiece_6 (by decide) ?_
  refine lv_iload_n hx hb dX13_ofPiece_7 rfl (lv_at hl 1 rfl) ?_
  refine lv_imul hx hb dX13_ofPiece_8 ?_
  refine tk_mul (show (3 : Int32).toInt = 3 by decide) rfl (by omega) (by omega) (fun v1 h_v1 => ?_)
  refine lv_iadd hx hb dX13_ofPiece_9 ?_
  refine tk_add (show (78 : Int32).toInt = 78 by decide) rfl (by omega) (by omega) (fun v2 h_v2 => ?_)
  refine lv_iload_n hx hb dX13_ofPiece_10 rfl (lv_at hl 2 rfl) ?_
  refine lv_iadd hx hb dX13_ofPiece_11 ?_
  refine tk_add rfl rfl (by omega) (by omega) (fun v3 h_v3 => ?_)
  refine mz_iald hx hb hK hM 3 (Nat.le_of_ble_eq_true rfl) rfl (nn := 5560) rfl rfl (by omega) (by omega) dX13_ofPiece_12 (fun v4 e_v4 => ?_)
  have hq_v4 := tk_rng v4
  exact mz_jret (v := v4) hx hb hr rfl hlocks trivial hM hS dX13_ofPiece_13
end
