theorem dX4_init_0 : decode cX4_init 0 = .ok (.aload_n 0, 1) := by decide +kernel
theorem dX4_init_1 : decode cX4_init 1 = .ok (.invokespecial 5, 3) := by decide +kernel
theorem dX4_init_4 : decode cX4_init 4 = .ok (.aload_n 0, 1) := by decide +kernel
theorem dX4_init_5 : decode cX4_init 5 = .ok (.iconst (-1), 1) := by decide +kernel
theorem dX4_init_6 : decode cX4_init 6 = .ok (.putfield 11, 3) := by decide +kernel
theorem dX4_init_9 : decode cX4_init 9 = .ok (.aload_n 0, 1) := by decide +kernel
theorem dX4_init_10 : decode cX4_init 10 = .ok (.aload_n 1, 1) := by decide +kernel
theorem dX4_init_11 : decode cX4_init 11 = .ok (.putfield 15, 3) := by decide +kernel
theorem dX4_init_14 : decode cX4_init 14 = .ok (.aload_n 0, 1) := by decide +kernel
theorem dX4_init_15 : decode cX4_init 15 = .ok (.aload_n 2, 1) := by decide +kernel
theorem dX4_init_16 : decode cX4_init 16 = .ok (.putfield 19, 3) := by decide +kernel
theorem dX4_init_19 : decode cX4_init 19 = .ok (.aload_n 0, 1) := by decide +kernel
theorem dX4_init_20 : decode cX4_init 20 = .ok (.aload_n 3, 1) := by decide +kernel
theorem dX4_init_21 : decode cX4_init 21 = .ok (.putfield 23, 3) := by decide +kernel
theorem dX4_init_24 : decode cX4_init 24 = .ok (.return_, 1) := by decide +kernel
set_option maxHeartbeats 8000000 in
set_option maxRecDepth 100000 in
theorem kc_X4 (l : Launch) (D : va_G) (cy : Nat → ClassId) (ld : Nat → Nat) (t : tk_T) (X : List Nat) (a0 K a1 a2 a3 : Nat) (ht_a0 : t a0 = (5, 0, 0)) (ht_a1 : t a1 = (3, 0, 0)) (hl_20 : ld 20 = a1) (ht_a2 : t a2 = (2, 0, 0)) (ht_a3 : t a3 = (12, 0, 0)) (hX : ∀ q : Nat, a0 ≤ q → q ∉ X) : Met l yX4_init (wl yX4_init cX4_init 4 none) ({ frames := 3, cells := 0, slots := 0, locals := 140 }) (rcp D cy ld t X [.ref a0, .ref a1, .ref a2, .ref a3] a0 4 [.int 0, .null, .null, .null, .int 0, .int 0] K) (rcq D cy ld t X a0 K K) 0 0 (fun q => q = a0 ∨ K ≤ q) := by
  refine rc_met (y := yX4_init) (cc := cX4_init) (maxL := 4) (ret := none) (av := [.ref a0, .ref a1, .ref a2, .ref a3]) _ (by decide) (Nat.le_of_ble_eq_true rfl) ?_
  intro p e s m args below meth c hx hb hr hml hts htl hown hlocks hin hK H locs hbn hG hat_a0 hS ls hl
  have hown : s.vm.findClass RX4 = some m.cls := hown
  have hin : meth.name = "<init>" := hin
  have hl : lv_has ls 4 [(0, .ref a0), (1, .ref a1), (2, .ref a2), (3, .ref a3)] := hl
  refine lv_aload_n hx hb dX4_init_0 rfl (lv_at hl 0 rfl) ?_
  refine W.objInit hx hb hown (htl _ mw_120) (htl _ mw_10) (htl _ mw_11) rfl (by rw [hml]; exact hl.1) rfl dX4_init_1 (Nat.le_of_ble_eq_true rfl) (Nat.le_of_ble_eq_true rfl) ?_
  refine W.eq (g2 := F0 m 4 ls []) rfl ?_
  refine lv_aload_n hx hb dX4_init_4 rfl (lv_at hl 0 rfl) ?_
  refine lv_iconst (v := (-1)) hx hb dX4_init_5 (by decide) ?_
  refine tk_put0 (ci := 4) (v := .int (-1)) (ty := .int) (C := RX4) (T := TX4) (N := 6) hx hb htl inX4 tyX4 tyX4_ok nmX4 hown hK hat_a0 rfl 0 (by decide) (htl _ mw_121) (fun _ h9 => h9) rfl (tyX4_ok 0 (by decide)) rfl rfl (Nat.le_of_ble_eq_true rfl) dX4_init_6 (fun H j9 hat_n z9 oq => ?_)
  have hS := hS.put (k := j9) z9 oq (by show _ = _ ∨ _ ≤ _; omega)
  have hat_a0 : va_at D vwCl (a0, .inr (4, [.int (-1), .null, .null, .null, .int 0, .int 0])) H := hat_n
  have hG : rc_G D cy ld t (a0 :: X) K H := hG.ajar (by simp) z9 oq
  refine lv_aload_n hx hb dX4_init_9 rfl (lv_at hl 0 rfl) ?_
  refine lv_aload_n hx hb dX4_init_10 rfl (lv_at hl 1 rfl) ?_
  refine rc_putF (ci := 4) (v := .ref a1) (ty := .object "CradleDuel$Hills") (C := RX4) (T := TX4) (N := 6) hx hb htl inX4 tyX4 tyX4_ok nmX4 hown hK hat_a0 rfl 1 (by decide) (htl _ mw_122) (fun _ h9 => h9) rfl hin rfl (tyX4_ok 1 (by decide)) rfl rfl (Nat.le_of_ble_eq_true rfl) dX4_init_11 (fun H j9 hat_n z9 oq => ?_)
  have hS := hS.put (k := j9) z9 oq (by show _ = _ ∨ _ ≤ _; omega)
  have hat_a0 : va_at D vwCl (a0, .inr (4, [.int (-1), .ref a1, .null, .null, .int 0, .int 0])) H := hat_n
  have hG : rc_G D cy ld t (a0 :: X) K H := hG.ajar (by simp) z9 oq
  refine lv_aload_n hx hb dX4_init_14 rfl (lv_at hl 0 rfl) ?_
  refine lv_aload_n hx hb dX4_init_15 rfl (lv_at hl 2 rfl) ?_
  refine rc_putF (ci := 4) (v := .ref a2) (ty := .object "CradleDuel$Deeds") (C := RX4) (T := TX4) (N := 6) hx hb htl inX4 tyX4 tyX4_ok nmX4 hown hK hat_a0 rfl 2 (by decide) (htl _ mw_123) (fun _ h9 => h9) rfl hin rfl (tyX4_ok 2 (by decide)) rfl rfl (Nat.le_of_ble_eq_true rfl) dX4_init_16 (fun H j9 hat_n z9 oq => ?_)
  have hS := hS.put (k := j9) z9 oq (by show _ = _ ∨ _ ≤ _; omega)
  have hat_a0 : va_at D vwCl (a0, .inr (4, [.int (-1), .ref a1, .ref a2, .null, .int 0, .int 0])) H := hat_n
  have hG : rc_G D cy ld t (a0 :: X) K H := hG.ajar (by simp) z9 oq
  refine lv_aload_n hx hb dX4_init_19 rfl (lv_at hl 0 rfl) ?_
  refine lv_aload_n hx hb dX4_init_20 rfl (lv_at hl 3 rfl) ?_
  refine rc_putF (ci := 4) (v := .ref a3) (ty := .object "CradleDuel$Sums") (C := RX4) (T := TX4) (N := 6) hx hb htl inX4 tyX4 tyX4_ok nmX4 hown hK hat_a0 rfl 3 (by decide) (htl _ mw_124) (fun _ h9 => h9) rfl hin rfl (tyX4_ok 3 (by decide)) rfl rfl (Nat.le_of_ble_eq_true rfl) dX4_init_21 (fun H j9 hat_n z9 oq => ?_)
  have hS := hS.put (k := j9) z9 oq (by show _ = _ ∨ _ ≤ _; omega)
  have hat_a0 : va_at D vwCl (a0, .inr (4, [.int (-1), .ref a1, .ref a2, .ref a3, .int 0, .int 0])) H := hat_n
  have hG : rc_G D cy ld t (a0 :: X) K H := hG.ajar (by simp) z9 oq
  have hG : rc_G D cy ld t X K H := hG.close hat_a0 ht_a0 (rc_obj (ci := 4) (by decide) rfl (fun j sp hj => by
      match j, hj with
      | 0, hj => cases hj; exact ⟨_, rfl, _, rfl, by decide, by decide⟩
      | 1, hj => cases hj; exact ⟨_, rfl, congrArg Value.ref hl_20.symm, (congrArg t hl_20).trans ht_a1⟩
      | 2, hj => cases hj; exact ⟨_, rfl, _, rfl, ht_a2⟩
      | 3, hj => cases hj; exact ⟨_, rfl, _, rfl, ht_a3⟩
      | 4, hj => cases hj; exact ⟨_, rfl, _, rfl, by decide, by decide⟩
      | 5, hj => cases hj; exact ⟨_, rfl, _, rfl, by decide, by decide⟩
      | j + 6, hj => simp [tk_F] at hj) trivial)
  exact rc_vret hx hb hr hlocks hG hS dX4_init_24
set_option maxHeartbeats 8000000 in
set_option maxRecDepth 100000 in
theorem kc_X7 (l : Launch) (D : va_G) (cy : Nat → ClassId) (ld : Nat → Nat) (t : tk_T) (X : List Nat) (a0 K : Nat) (ht_a0 : t a0 = (8, 512, 12)) (hH : rH7 ld t K) (hX : ∀ q : Nat, a0 ≤ q → q ∉ X) : Met l yX7_init (wl yX7_init cX7_init 3 none) ({ frames := 3, cells := 6, slots := 1096, locals := 140 }) (rcp D cy ld t X [.ref a0, .int 512, .int 12] a0 7 [.null, .null, .null, .null, .null, .null, .int 0, .int 0, .int 0, .int 0] K) (rcq D cy ld t X a0 K (K + 6)) 6 1096 (fun q => q = a0 ∨ K ≤ q) := by
  refine rc_met (y := yX7_init) (cc := cX7_init) (maxL := 3) (ret := none) (av := [.ref a0, .int 512, .int 12]) _ (by decide) (Nat.le_of_ble_eq_true rfl) ?_
  intro p e s m args below meth c hx hb hr hml hts htl hown hlocks hin hK H locs hbn hG hat_a0 hS ls hl
  have hown : s.vm.findClass RX7 = some m.cls := hown
  have hin : meth.name = "<init>" := hin
  have hl : lv_has ls 3 [(0, .ref a0), (1, .int 512), (2, .int 12)] := hl
  obtain ⟨ht0, ht1, ht2, ht3, ht4, ht5⟩ := hH
  refine lv_aload_n hx hb dX7_init_0 rfl (lv_at hl 0 rfl) ?_
  refine W.objInit hx hb hown (htl _ mw_137) (htl _ mw_10) (htl _ mw_11) rfl (by rw [hml]; exact hl.1) rfl dX7_init_1 (Nat.le_of_ble_eq_true rfl) (Nat.le_of_ble_eq_true rfl) ?_
  refine W.eq (g2 := F0 m 4 ls []) rfl ?_
  refine lv_aload_n hx hb dX7_init_4 rfl (lv_at hl 0 rfl) ?_
  refine lv_iload_n hx hb dX7_init_5 rfl (lv_at hl 1 rfl) ?_
  refine rc_newa hx hb (htl _ mw_32) rfl hK hG hS 0 rfl (fun _ h => h) (a0 := (512, .inl (fun _ => 0))) (fun _ => rfl) (by decide) (by decide) (Nat.le_of_ble_eq_true rfl) (Nat.le_of_ble_eq_true rfl) (Nat.le_of_ble_eq_true rfl) dX7_init_6 (fun H hG hat_n oq hS => ?_)
  have hat_a0 : va_at D vwCl (a0, .inr (7, [.null, .null, .null, .null, .null, .null, .int 0, .int 0, .int 0, .int 0])) H := hat_a0.kept (oq _ (by omega))
  refine W.widen (k := 1) (n := 512) (Nat.le_of_ble_eq_true rfl) (Nat.le_of_ble_eq_true rfl) ?_
  have hG : rc_G D cy ld t (a0 :: X) (K + 1) H := rc_G.close hG hat_n ht0 (rc_arr (by decide) (by decide) (fun j hj => trivial))
  refine rc_putF (ci := 7) (v := .ref K) (ty := .array (.int)) (C := RX7) (T := TX7) (N := 10) hx hb htl inX7 tyX7 tyX7_ok nmX7 hown hK hat_a0 rfl 0 (by decide) (htl _ mw_138) (fun _ h9 => h9) rfl hin rfl (tyX7_ok 0 (by decide)) rfl rfl (Nat.le_of_ble_eq_true rfl) dX7_init_8 (fun H j9 hat_n z9 oq => ?_)
  have hS := hS.put (k := j9) z9 oq (by show _ = _ ∨ _ ≤ _; omega)
  have hat_a0 : va_at D vwCl (a0, .inr (7, [.ref K, .null, .null, .null, .null, .null, .int 0, .int 0, .int 0, .int 0])) H := hat_n
  have hG : rc_G D cy ld t (a0 :: X) (K + 1) H := hG.ajar (by simp) z9 oq
  refine lv_aload_n hx hb dX7_init_11 rfl (lv_at hl 0 rfl) ?_
  refine lv_iload_n hx hb dX7_init_12 rfl (lv_at hl 1 rfl) ?_
  refine rc_newa hx hb (htl _ mw_32) rfl hK hG hS 0 rfl (fun _ h => h) (a0 := (512, .inl (fun _ => 0))) (fun _ => rfl) (by decide) (by decide) (Nat.le_of_ble_eq_true rfl) (Nat.le_of_ble_eq_true rfl) (Nat.le_of_ble_eq_true rfl) dX7_init_13 (fun H hG hat_n oq hS => ?_)
  have hat_a0 : va_at D vwCl (a0, .inr (7, [.ref K, .null, .null, .null, .null, .null, .int 0, .int 0, .int 0, .int 0])) H := hat_a0.kept (oq _ (by omega))
  refine W.widen (k := 2) (n := 1024) (Nat.le_of_ble_eq_true rfl) (Nat.le_of_ble_eq_true rfl) ?_
  have hG : rc_G D cy ld t (a0 :: X) (K + 2) H := rc_G.close hG hat_n ht1 (rc_arr (by decide) (by decide) (fun j hj => trivial))
  refine rc_putF (ci := 7) (v := .ref (K + 1)) (ty := .array (.int)) (C := RX7) (T := TX7) (N := 10) hx hb htl inX7 tyX7 tyX7_ok nmX7 hown hK hat_a0 rfl 1 (by decide) (htl _ mw_139) (fun _ h9 => h9) rfl hin rfl (tyX7_ok 1 (by decide)) rfl rfl (Nat.le_of_ble_eq_true rfl) dX7_init_15 (fun H j9 hat_n z9 oq => ?_)
  have hS := hS.put (k := j9) z9 oq (by show _ = _ ∨ _ ≤ _; omega)
  have hat_a0 : va_at D vwCl (a0, .inr (7, [.ref K, .ref (K + 1), .null, .null, .null, .null, .int 0, .int 0, .int 0, .int 0])) H := hat_n
  have hG : rc_G D cy ld t (a0 :: X) (K + 2) H := hG.ajar (by simp) z9 oq
  refine lv_aload_n hx hb dX7_init_18 rfl (lv_at hl 0 rfl) ?_
  refine lv_iload_n hx hb dX7_init_19 rfl (lv_at hl 2 rfl) ?_
  refine rc_newa hx hb (htl _ mw_32) rfl hK hG hS 0 rfl (fun _ h => h) (a0 := (12, .inl (fun _ => 0))) (fun _ => rfl) (by decide) (by decide) (Nat.le_of_ble_eq_true rfl) (Nat.le_of_ble_eq_true rfl) (Nat.le_of_ble_eq_true rfl) dX7_init_20 (fun H hG hat_n oq hS => ?_)
  have hat_a0 : va_at D vwCl (a0, .inr (7, [.ref K, .ref (K + 1), .null, .null, .null, .null, .int 0, .int 0, .int 0, .int 0])) H := hat_a0.kept (oq _ (by omega))
  refine W.widen (k := 3) (n := 1036) (Nat.le_of_ble_eq_true rfl) (Nat.le_of_ble_eq_true rfl) ?_
  have hG : rc_G D cy ld t (a0 :: X) (K + 3) H := rc_G.close hG hat_n ht2 (rc_arr (by decide) (by decide) (fun j hj => trivial))
  refine rc_putF (ci := 7) (v := .ref (K + 2)) (ty := .array (.int)) (C := RX7) (T := TX7) (N := 10) hx hb htl inX7 tyX7 tyX7_ok nmX7 hown hK hat_a0 rfl 2 (by decide) (htl _ mw_140) (fun _ h9 => h9) rfl hin rfl (tyX7_ok 2 (by decide)) rfl rfl (Nat.le_of_ble_eq_true rfl) dX7_init_22 (fun H j9 hat_n z9 oq => ?_)
  have hS := hS.put (k := j9) z9 oq (by show _ = _ ∨ _ ≤ _; omega)
  have hat_a0 : va_at D vwCl (a0, .inr (7, [.ref K, .ref (K + 1), .ref (K + 2), .null, .null, .null, .int 0, .int 0, .int 0, .int 0])) H := hat_n
  have hG : rc_G D cy ld t (a0 :: X) (K + 3) H := hG.ajar (by simp) z9 oq
  refine lv_aload_n hx hb dX7_init_25 rfl (lv_at hl 0 rfl) ?_
  refine lv_iload_n hx hb dX7_init_26 rfl (lv_at hl 2 rfl) ?_
  refine rc_newa hx hb (htl _ mw_32) rfl hK hG hS 0 rfl (fun _ h => h) (a0 := (12, .inl (fun _ => 0))) (fun _ => rfl) (by decide) (by decide) (Nat.le_of_ble_eq_true rfl) (Nat.le_of_ble_eq_true rfl) (Nat.le_of_ble_eq_true rfl) dX7_init_27 (fun H hG hat_n oq hS => ?_)
  have hat_a0 : va_at D vwCl (a0, .inr (7, [.ref K, .ref (K + 1), .ref (K + 2), .null, .null, .null, .int 0, .int 0, .int 0, .int 0])) H := hat_a0.kept (oq _ (by omega))
  refine W.widen (k := 4) (n := 1048) (Nat.le_of_ble_eq_true rfl) (Nat.le_of_ble_eq_true rfl) ?_
  have hG : rc_G D cy ld t (a0 :: X) (K + 4) H := rc_G.close hG hat_n ht3 (rc_arr (by decide) (by decide) (fun j hj => by show 0 ≤ ((0 : Int32).toInt) ∧ _; decide))
  refine rc_putF (ci := 7) (v := .ref (K + 3)) (ty := .array (.int)) (C := RX7) (T := TX7) (N := 10) hx hb htl inX7 tyX7 tyX7_ok nmX7 hown hK hat_a0 rfl 3 (by decide) (htl _ mw_141) (fun _ h9 => h9) rfl hin rfl (tyX7_ok 3 (by decide)) rfl rfl (Nat.le_of_ble_eq_true rfl) dX7_init_29 (fun H j9 hat_n z9 oq => ?_)
  have hS := hS.put (k := j9) z9 oq (by show _ = _ ∨ _ ≤ _; omega)
  have hat_a0 : va_at D vwCl (a0, .inr (7, [.ref K, .ref (K + 1), .ref (K + 2), .ref (K + 3), .null, .null, .int 0, .int 0, .int 0, .int 0])) H := hat_n
  have hG : rc_G D cy ld t (a0 :: X) (K + 4) H := hG.ajar (by simp) z9 oq
  refine lv_aload_n hx hb dX7_init_32 rfl (lv_at hl 0 rfl) ?_
  refine lv_iload_n hx hb dX7_init_33 rfl (lv_at hl 2 rfl) ?_
  refine rc_newa hx hb (htl _ mw_32) rfl hK hG hS 0 rfl (fun _ h => h) (a0 := (12, .inl (fun _ => 0))) (fun _ => rfl) (by decide) (by decide) (Nat.le_of_ble_eq_true rfl) (Nat.le_of_ble_eq_true rfl) (Nat.le_of_ble_eq_true rfl) dX7_init_34 (fun H hG hat_n oq hS => ?_)
  have hat_a0 : va_at D vwCl (a0, .inr (7, [.ref K, .ref (K + 1), .ref (K + 2), .ref (K + 3), .null, .null, .int 0, .int 0, .int 0, .int 0])) H := hat_a0.kept (oq _ (by omega))
  refine W.widen (k := 5) (n := 1060) (Nat.le_of_ble_eq_true rfl) (Nat.le_of_ble_eq_true rfl) ?_
  have hG : rc_G D cy ld t (a0 :: X) (K + 5) H := rc_G.close hG hat_n ht4 (rc_arr (by decide) (by decide) (fun j hj => trivial))
  refine rc_putF (ci := 7) (v := .ref (K + 4)) (ty := .array (.int)) (C := RX7) (T := TX7) (N := 10) hx hb htl inX7 tyX7 tyX7_ok nmX7 hown hK hat_a0 rfl 4 (by decide) (htl _ mw_142) (fun _ h9 => h9) rfl hin rfl (tyX7_ok 4 (by decide)) rfl rfl (Nat.le_of_ble_eq_true rfl) dX7_init_36 (fun H j9 hat_n z9 oq => ?_)
  have hS := hS.put (k := j9) z9 oq (by show _ = _ ∨ _ ≤ _; omega)
  have hat_a0 : va_at D vwCl (a0, .inr (7, [.ref K, .ref (K + 1), .ref (K + 2), .ref (K + 3), .ref (K + 4), .null, .int 0, .int 0, .int 0, .int 0])) H := hat_n
  have hG : rc_G D cy ld t (a0 :: X) (K + 5) H := hG.ajar (by simp) z9 oq
  refine lv_aload_n hx hb dX7_init_39 rfl (lv_at hl 0 rfl) ?_
  refine lv_iload_n hx hb dX7_init_40 rfl (lv_at hl 2 rfl) ?_
  refine lv_iconst (v := 3) hx hb dX7_init_41 (by decide) ?_
  refine lv_imul hx hb dX7_init_42 ?_
  refine fx_ti (v := 36) (by decide) ?_
  refine rc_newa hx hb (htl _ mw_32) rfl hK hG hS 0 rfl (fun _ h => h) (a0 := (36, .inl (fun _ => 0))) (fun _ => rfl) (by decide) (by decide) (Nat.le_of_ble_eq_true rfl) (Nat.le_of_ble_eq_true rfl) (Nat.le_of_ble_eq_true rfl) dX7_init_43 (fun H hG hat_n oq hS => ?_)
  have hat_a0 : va_at D vwCl (a0, .inr (7, [.ref K, .ref (K + 1), .ref (K + 2), .ref (K + 3), .ref (K + 4), .null, .int 0, .int 0, .int 0, .int 0])) H := hat_a0.kept (oq _ (by omega))
  refine W.widen (k := 6) (n := 1096) (Nat.le_of_ble_eq_true rfl) (Nat.le_of_ble_eq_true rfl) ?_
  have hG : rc_G D cy ld t (a0 :: X) (K + 6) H := rc_G.close hG hat_n ht5 (rc_arr (by decide) (by decide) (fun j hj => trivial))
  refine rc_putF (ci := 7) (v := .ref (K + 5)) (ty := .array (.int)) (C := RX7) (T := TX7) (N := 10) hx hb htl inX7 tyX7 tyX7_ok nmX7 hown hK hat_a0 rfl 5 (by decide) (htl _ mw_143) (fun _ h9 => h9) rfl hin rfl (tyX7_ok 5 (by decide)) rfl rfl (Nat.le_of_ble_eq_true rfl) dX7_init_45 (fun H j9 hat_n z9 oq => ?_)
  have hS := hS.put (k := j9) z9 oq (by show _ = _ ∨ _ ≤ _; omega)
  have hat_a0 : va_at D vwCl (a0, .inr (7, [.ref K, .ref (K + 1), .ref (K + 2), .ref (K + 3), .ref (K + 4), .ref (K + 5), .int 0, .int 0, .int 0, .int 0])) H := hat_n
  have hG : rc_G D cy ld t (a0 :: X) (K + 6) H := hG.ajar (by simp) z9 oq
  have hG : rc_G D cy ld t X (K + 6) H := hG.close hat_a0 ht_a0 (rc_obj (ci := 7) (by decide) rfl (fun j sp hj => by
      match j, hj with
      | 0, hj => cases hj; exact ⟨_, rfl, _, rfl, ht0⟩
      | 1, hj => cases hj; exact ⟨_, rfl, _, rfl, ht1⟩
      | 2, hj => cases hj; exact ⟨_, rfl, _, rfl, ht2⟩
      | 3, hj => cases hj; exact ⟨_, rfl, _, rfl, ht3⟩
      | 4, hj => cases hj; exact ⟨_, rfl, _, rfl, ht4⟩
      | 5, hj => cases hj; exact ⟨_, rfl, _, rfl, ht5⟩
      | 6, hj => cases hj; exact ⟨_, rfl, _, rfl, by decide, by decide⟩
      | 7, hj => cases hj; exact ⟨_, rfl, _, rfl, by decide, by decide⟩
      | 8, hj => cases hj; exact ⟨_, rfl, _, rfl, by decide, by decide⟩
      | 9, hj => cases hj; exact ⟨_, rfl, _, rfl, by decide, by decide⟩
      | j + 10, hj => simp [tk_F] at hj) ⟨by decide, by decide⟩)
  exact rc_vret hx hb hr hlocks hG hS dX7_init_48
theorem dX6_init_0 : decode cX6_init 0 = .ok (.aload_n 0, 1) := by decide +kernel
theorem dX6_init_1 : decode cX6_init 1 = .ok (.invokespecial 3, 3) := by decide +kernel
theorem dX6_init_4 : decode cX6_init 4 = .ok (.aload_n 0, 1) := by decide +kernel
theorem dX6_init_5 : decode cX6_init 5 = .ok (.new 9, 3) := by decide +kernel
theorem dX6_init_8 : decode cX6_init 8 = .ok (.dup, 1) := by decide +kernel
theorem dX6_init_9 : decode cX6_init 9 = .ok (.sipush 512, 3) := by decide +kernel
theorem dX6_init_12 : decode cX6_init 12 = .ok (.bipush 12, 2) := by decide +kernel
theorem dX6_init_14 : decode cX6_init 14 = .ok (.invokespecial 13, 3) := by decide +kernel
theorem dX6_init_17 : decode cX6_init 17 = .ok (.putfield 16, 3) := by decide +kernel
theorem dX6_init_20 : decode cX6_init 20 = .ok (.aload_n 0, 1) := by decide +kernel
theorem dX6_init_21 : decode cX6_init 21 = .ok (.aload_n 1, 1) := by decide +kernel
theorem dX6_init_22 : decode cX6_init 22 = .ok (.putfield 20, 3) := by decide +kernel
theorem dX6_init_25 : decode cX6_init 25 = .ok (.return_, 1) := by decide +kernel
set_option maxHeartbeats 8000000 in
set_option maxRecDepth 100000 in
theorem kc_X6 (l : Launch) (D : va_G) (cy : Nat → ClassId) (ld : Nat → Nat) (t : tk_T) (X : List Nat) (a0 K a1 : Nat) (ht_a0 : t a0 = (7, 0, 0)) (hH : rH6 ld t K) (ht_a1 : t a1 = (20, 400, 9)) (hX : ∀ q : Nat, a0 ≤ q → q ∉ X) : Met l yX6_init (wl yX6_init cX6_init 2 none) ({ frames := 4, cells := 7, slots := 1106, locals := 210 }) (rcp D cy ld t X [.ref a0, .ref a1] a0 6 [.null, .null, .int 0, .int 0, .int 0, .int 0, .int 0, .int 0, .int 0, .int 0, .int 0] K) (rcq D cy ld t X a0 K (K + 7)) 7 1106 (fun q => q = a0 ∨ K ≤ q) := by
  refine rc_met (y := yX6_init) (cc := cX6_init) (maxL := 2) (ret := none) (av := [.ref a0, .ref a1]) _ (by decide) (Nat.le_of_ble_eq_true rfl) ?_
  intro p e s m args below meth c hx hb hr hml hts htl hown hlocks hin hK H locs hbn hG hat_a0 hS ls hl
  have hown : s.vm.findClass RX6 = some m.cls := hown
  have hin : meth.name = "<init>" := hin
  have hl : lv_has ls 2 [(0, .ref a0), (1, .ref a1)] := hl
  obtain ⟨ht0, hs1⟩ := hH
  refine lv_aload_n hx hb dX6_init_0 rfl (lv_at hl 0 rfl) ?_
  refine W.objInit hx hb hown (htl _ mw_128) (htl _ mw_10) (htl _ mw_11) rfl (by rw [hml]; exact hl.1) rfl dX6_init_1 (Nat.le_of_ble_eq_true rfl) (Nat.le_of_ble_eq_true rfl) ?_
  refine W.eq (g2 := F0 m 4 ls []) rfl ?_
  refine lv_aload_n hx hb dX6_init_4 rfl (lv_at hl 0 rfl) ?_
  refine rc_new (ci := 7) (fs := [.null, .null, .null, .null, .null, .null, .int 0, .int 0, .int 0, .int 0]) (C := RX7) (T := TX7) (N := 10) hx hb htl inX7 tyX7 tyX7_ok hown (htl _ mw_129) (htl _ mw_130) (htl _ mw_131) hK hG hS rfl dfX7 (Nat.le_of_ble_eq_true rfl) (Nat.le_of_ble_eq_true rfl) dX6_init_5 (fun H hG hat_n oq hS => ?_)
  have hat_a0 : va_at D vwCl (a0, .inr (6, [.null, .null, .int 0, .int 0, .int 0, .int 0, .int 0, .int 0, .int 0, .int 0, .int 0])) H := hat_a0.kept (oq _ (by omega))
  refine W.widen (k := 1) (n := 10) (Nat.le_of_ble_eq_true rfl) (Nat.le_of_ble_eq_true rfl) ?_
  have hG : rc_G D cy ld t (K :: a0 :: X) (K + 1) H := hG
  have hat_K : va_at D vwCl (K, .inr (7, [.null, .null, .null, .null, .null, .null, .int 0, .int 0, .int 0, .int 0])) H := hat_n
  refine lv_dup hx hb dX6_init_8 rfl ?_
  refine lv_sipush (v := 512) hx hb dX6_init_9 (by decide) ?_
  refine lv_bipush (v := 12) hx hb dX6_init_12 (by decide) ?_
  have hXX := kc_X7 l D cy ld t (a0 :: X) K (K + 1) ht0 hs1  (fun q hq => rc_nin (by omega) (hX q (by omega)))
  refine rc_I (As := [.int 512, .int 12]) (rest := [.ref K, .ref a0]) (ci := 7) (n1 := (K + 7)) ⟨hx, hb, hml, hown, hts⟩ hK hG hat_K hS (fun q h9 => by show _ = _ ∨ _ ≤ _; omega) hXX ⟨callB_of 2 hts (wl_in mw_136) rfl rfl rfl (htl _ mw_131) (htl _ mw_134) hd_yX7_init ⟨(Nat.le_of_ble_eq_true rfl), (Nat.le_of_ble_eq_true rfl)⟩, rfl, htl _ mw_135⟩ rfl hl.1 rfl (Nat.le_of_ble_eq_true rfl) dX6_init_14 ⟨(Nat.le_of_ble_eq_true rfl), (Nat.le_of_ble_eq_true rfl)⟩ (fun H locs hG oq hS => ?_)
  have hat_a0 : va_at D vwCl (a0, .inr (6, [.null, .null, .int 0, .int 0, .int 0, .int 0, .int 0, .int 0, .int 0, .int 0, .int 0])) H := hat_a0.kept (oq _ (by omega) (by omega))
  refine W.widen (k := 7) (n := 1106) (Nat.le_of_ble_eq_true rfl) (Nat.le_of_ble_eq_true rfl) ?_
  have hG : rc_G D cy ld t (a0 :: X) (K + 7) H := hG
  refine rc_putF (ci := 6) (v := .ref K) (ty := .object "CradleDuel$Script") (C := RX6) (T := TX6) (N := 11) hx hb htl inX6 tyX6 tyX6_ok nmX6 hown hK hat_a0 rfl 0 (by decide) (htl _ mw_132) (fun _ h9 => h9) rfl hin rfl (tyX6_ok 0 (by decide)) rfl rfl (Nat.le_of_ble_eq_true rfl) dX6_init_17 (fun H j9 hat_n z9 oq => ?_)
  have hS := hS.put (k := j9) z9 oq (by show _ = _ ∨ _ ≤ _; omega)
  have hat_a0 : va_at D vwCl (a0, .inr (6, [.ref K, .null, .int 0, .int 0, .int 0, .int 0, .int 0, .int 0, .int 0, .int 0, .int 0])) H := hat_n
  have hG : rc_G D cy ld t (a0 :: X) (K + 7) H := hG.ajar (by simp) z9 oq
  refine lv_aload_n hx hb dX6_init_20 rfl (lv_at hl 0 rfl) ?_
  refine lv_aload_n hx hb dX6_init_21 rfl (lv_at hl 1 rfl) ?_
  refine rc_putF (ci := 6) (v := .ref a1) (ty := .array (.int)) (C := RX6) (T := TX6) (N := 11) hx hb htl inX6 tyX6 tyX6_ok nmX6 hown hK hat_a0 rfl 1 (by decide) (htl _ mw_133) (fun _ h9 => h9) rfl hin rfl (tyX6_ok 1 (by decide)) rfl rfl (Nat.le_of_ble_eq_true rfl) dX6_init_22 (fun H j9 hat_n z9 oq => ?_)
  have hS := hS.put (k := j9) z9 oq (by show _ = _ ∨ _ ≤ _; omega)
  have hat_a0 : va_at D vwCl (a0, .inr (6, [.ref K, .ref a1, .int 0, .int 0, .int 0, .int 0, .int 0, .int 0, .int 0, .int 0, .int 0])) H := hat_n
  have hG : rc_G D cy ld t (a0 :: X) (K + 7) H := hG.ajar (by simp) z9 oq
  have hG : rc_G D cy ld t X (K + 7) H := hG.close hat_a0 ht_a0 (rc_obj (ci := 6) (by decide) rfl (fun j sp hj => by
      match j, hj with
      | 0, hj => cases hj; exact ⟨_, rfl, _, rfl, ht0⟩
      | 1, hj => cases hj; exact ⟨_, rfl, _, rfl, ht_a1⟩
      | 2, hj => cases hj; exact ⟨_, rfl, _, rfl, by decide, by decide⟩
      | 3, hj => cases hj; exact ⟨_, rfl, _, rfl, by decide, by decide⟩
      | 4, hj => cases hj; exact ⟨_, rfl, _, rfl, by decide, by decide⟩
      | 5, hj => cases hj; exact ⟨_, rfl, _, rfl, by decide, by decide⟩
      | 6, hj => cases hj; exact ⟨_, rfl, _, rfl, by decide, by decide⟩
      | 7, hj => cases hj; exact ⟨_, rfl, _, rfl, by decide, by decide⟩
      | 8, hj => cases hj; exact ⟨_, rfl, _, rfl, by decide, by decide⟩
      | 9, hj => cases hj; exact ⟨_, rfl, _, rfl, by decide, by decide⟩
      | 10, hj => cases hj; exact ⟨_, rfl, _, rfl, by decide, by decide⟩
      | j + 11, hj => simp [tk_F] at hj) (fun x y h1 h2 h3 => absurd (by cases h2; decide) h3))
  exact rc_vret hx hb hr hlocks hG hS dX6_init_25
