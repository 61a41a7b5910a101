theorem dX0_init_0 : decode cX0_init 0 = .ok (.aload_n 0, 1) := by decide +kernel
theorem dX0_init_1 : decode cX0_init 1 = .ok (.invokespecial 3, 3) := by decide +kernel
theorem dX0_init_4 : decode cX0_init 4 = .ok (.aload_n 0, 1) := by decide +kernel
theorem dX0_init_5 : decode cX0_init 5 = .ok (.new 9, 3) := by decide +kernel
theorem dX0_init_8 : decode cX0_init 8 = .ok (.dup, 1) := by decide +kernel
theorem dX0_init_9 : decode cX0_init 9 = .ok (.invokespecial 11, 3) := by decide +kernel
theorem dX0_init_12 : decode cX0_init 12 = .ok (.putfield 12, 3) := by decide +kernel
theorem dX0_init_15 : decode cX0_init 15 = .ok (.aload_n 0, 1) := by decide +kernel
theorem dX0_init_16 : decode cX0_init 16 = .ok (.bipush 8, 2) := by decide +kernel
theorem dX0_init_18 : decode cX0_init 18 = .ok (.newarray .int, 2) := by decide +kernel
theorem dX0_init_20 : decode cX0_init 20 = .ok (.putfield 18, 3) := by decide +kernel
theorem dX0_init_23 : decode cX0_init 23 = .ok (.aload_n 0, 1) := by decide +kernel
theorem dX0_init_24 : decode cX0_init 24 = .ok (.bipush 10, 2) := by decide +kernel
theorem dX0_init_26 : decode cX0_init 26 = .ok (.newarray .int, 2) := by decide +kernel
theorem dX0_init_28 : decode cX0_init 28 = .ok (.putfield 22, 3) := by decide +kernel
theorem dX0_init_31 : decode cX0_init 31 = .ok (.aload_n 0, 1) := by decide +kernel
theorem dX0_init_32 : decode cX0_init 32 = .ok (.aload_n 1, 1) := by decide +kernel
theorem dX0_init_33 : decode cX0_init 33 = .ok (.putfield 25, 3) := by decide +kernel
theorem dX0_init_36 : decode cX0_init 36 = .ok (.aload_n 0, 1) := by decide +kernel
theorem dX0_init_37 : decode cX0_init 37 = .ok (.aload_n 2, 1) := by decide +kernel
theorem dX0_init_38 : decode cX0_init 38 = .ok (.putfield 29, 3) := by decide +kernel
theorem dX0_init_41 : decode cX0_init 41 = .ok (.return_, 1) := by decide +kernel
set_option maxHeartbeats 8000000 in
set_option maxRecDepth 100000 in
theorem kc_X0 (l : Launch) (D : va_G) (cy : Nat → ClassId) (ld : Nat → Nat) (t : tk_T) (X : List Nat) (a0 K a1 a2 : Nat) (ht_a0 : t a0 = (1, 0, 0)) (hH : rH0 ld t K) (ht_a1 : t a1 = (3, 0, 0)) (hl_20 : ld 20 = a1) (ht_a2 : t a2 = (9, 0, 0)) (hX : ∀ q : Nat, a0 ≤ q → q ∉ X) : Met l yX0_init (wl yX0_init cX0_init 3 none) ({ frames := 4, cells := 7, slots := 55, locals := 210 }) (rcp D cy ld t X [.ref a0, .ref a1, .ref a2] a0 0 [.null, .null, .int 0, .null, .null, .null, .int 0] K) (rcq D cy ld t X a0 K (K + 7)) 7 55 (fun q => q = a0 ∨ K ≤ q) := by
  refine rc_met (y := yX0_init) (cc := cX0_init) (maxL := 3) (ret := none) (av := [.ref a0, .ref a1, .ref a2]) _ (by decide) (Nat.le_of_ble_eq_true rfl) ?_
  intro p e s m args below meth c hx hb hr hml hts htl hown hlocks hin hK H locs hbn hG hat_a0 hS ls hl
  have hown : s.vm.findClass RX0 = some m.cls := hown
  have hin : meth.name = "<init>" := hin
  have hl : lv_has ls 3 [(0, .ref a0), (1, .ref a1), (2, .ref a2)] := hl
  obtain ⟨ht0, hs1, ht5, ht6, hl0⟩ := hH
  refine lv_aload_n hx hb dX0_init_0 rfl (lv_at hl 0 rfl) ?_
  refine W.objInit hx hb hown (htl _ mw_161) (htl _ mw_10) (htl _ mw_11) rfl (by rw [hml]; exact hl.1) rfl dX0_init_1 (Nat.le_of_ble_eq_true rfl) (Nat.le_of_ble_eq_true rfl) ?_
  refine W.eq (g2 := F0 m 4 ls []) rfl ?_
  refine lv_aload_n hx hb dX0_init_4 rfl (lv_at hl 0 rfl) ?_
  refine rc_new (ci := 9) (fs := [.null, .null, .null, .null, .int 0, .int 0, .int 0, .int 0, .int 0, .int 0, .int 0]) (C := RX9) (T := TX9) (N := 11) hx hb htl inX9 tyX9 tyX9_ok hown (htl _ mw_162) (htl _ mw_75) (htl _ mw_76) hK hG hS rfl dfX9 (Nat.le_of_ble_eq_true rfl) (Nat.le_of_ble_eq_true rfl) dX0_init_5 (fun H hG hat_n oq hS => ?_)
  have hat_a0 : va_at D vwCl (a0, .inr (0, [.null, .null, .int 0, .null, .null, .null, .int 0])) H := hat_a0.kept (oq _ (by omega))
  refine W.widen (k := 1) (n := 11) (Nat.le_of_ble_eq_true rfl) (Nat.le_of_ble_eq_true rfl) ?_
  have hG : rc_G D cy ld t (K :: a0 :: X) (K + 1) H := hG
  have hat_K : va_at D vwCl (K, .inr (9, [.null, .null, .null, .null, .int 0, .int 0, .int 0, .int 0, .int 0, .int 0, .int 0])) H := hat_n
  refine lv_dup hx hb dX0_init_8 rfl ?_
  have hXX := kc_X9 l D cy ld t (a0 :: X) K (K + 1) 5 ht0 hs1  (fun q hq => rc_nin (by omega) (hX q (by omega)))
  refine rc_I (As := []) (rest := [.ref K, .ref a0]) (ci := 9) (n1 := (K + 5)) ⟨hx, hb, hml, hown, hts⟩ hK hG hat_K hS (fun q h9 => by show _ = _ ∨ _ ≤ _; omega) hXX ⟨callB_of 0 hts (wl_in mw_80) rfl rfl rfl (htl _ mw_76) (htl _ mw_168) hd_yX9_init ⟨(Nat.le_of_ble_eq_true rfl), (Nat.le_of_ble_eq_true rfl)⟩, rfl, htl _ mw_79⟩ rfl hl.1 rfl (Nat.le_of_ble_eq_true rfl) dX0_init_9 ⟨(Nat.le_of_ble_eq_true rfl), (Nat.le_of_ble_eq_true rfl)⟩ (fun H locs hG oq hS => ?_)
  have hat_a0 : va_at D vwCl (a0, .inr (0, [.null, .null, .int 0, .null, .null, .null, .int 0])) H := hat_a0.kept (oq _ (by omega) (by omega))
  refine W.widen (k := 5) (n := 37) (Nat.le_of_ble_eq_true rfl) (Nat.le_of_ble_eq_true rfl) ?_
  have hG : rc_G D cy ld t (a0 :: X) (K + 5) H := hG
  refine rc_putF (ci := 0) (v := .ref K) (ty := .object "CradleDuel$Stand") (C := RX0) (T := TX0) (N := 7) hx hb htl inX0 tyX0 tyX0_ok nmX0 hown hK hat_a0 rfl 0 (by decide) (htl _ mw_163) (fun _ h9 => h9) rfl hin rfl (tyX0_ok 0 (by decide)) rfl rfl (Nat.le_of_ble_eq_true rfl) dX0_init_12 (fun H j9 hat_n z9 oq => ?_)
  have hS := hS.put (k := j9) z9 oq (by show _ = _ ∨ _ ≤ _; omega)
  have hat_a0 : va_at D vwCl (a0, .inr (0, [.ref K, .null, .int 0, .null, .null, .null, .int 0])) H := hat_n
  have hG : rc_G D cy ld t (a0 :: X) (K + 5) H := hG.ajar (by simp) z9 oq
  refine lv_aload_n hx hb dX0_init_15 rfl (lv_at hl 0 rfl) ?_
  refine lv_bipush (v := 8) hx hb dX0_init_16 (by decide) ?_
  refine rc_newa hx hb (htl _ mw_32) rfl hK hG hS 0 rfl (fun _ h => h) (a0 := (8, .inl (fun _ => 0))) (fun _ => rfl) (by decide) (by decide) (Nat.le_of_ble_eq_true rfl) (Nat.le_of_ble_eq_true rfl) (Nat.le_of_ble_eq_true rfl) dX0_init_18 (fun H hG hat_n oq hS => ?_)
  have hat_a0 : va_at D vwCl (a0, .inr (0, [.ref K, .null, .int 0, .null, .null, .null, .int 0])) H := hat_a0.kept (oq _ (by omega))
  refine W.widen (k := 6) (n := 45) (Nat.le_of_ble_eq_true rfl) (Nat.le_of_ble_eq_true rfl) ?_
  have hG : rc_G D cy ld t (a0 :: X) (K + 6) H := rc_G.close hG hat_n ht5 (rc_arr (by decide) (by decide) (fun j hj => trivial))
  refine rc_putF (ci := 0) (v := .ref (K + 5)) (ty := .array (.int)) (C := RX0) (T := TX0) (N := 7) hx hb htl inX0 tyX0 tyX0_ok nmX0 hown hK hat_a0 rfl 1 (by decide) (htl _ mw_164) (fun _ h9 => h9) rfl hin rfl (tyX0_ok 1 (by decide)) rfl rfl (Nat.le_of_ble_eq_true rfl) dX0_init_20 (fun H j9 hat_n z9 oq => ?_)
  have hS := hS.put (k := j9) z9 oq (by show _ = _ ∨ _ ≤ _; omega)
  have hat_a0 : va_at D vwCl (a0, .inr (0, [.ref K, .ref (K + 5), .int 0, .null, .null, .null, .int 0])) H := hat_n
  have hG : rc_G D cy ld t (a0 :: X) (K + 6) H := hG.ajar (by simp) z9 oq
  refine lv_aload_n hx hb dX0_init_23 rfl (lv_at hl 0 rfl) ?_
  refine lv_bipush (v := 10) hx hb dX0_init_24 (by decide) ?_
  refine rc_newa hx hb (htl _ mw_32) rfl hK hG hS 0 rfl (fun _ h => h) (a0 := (10, .inl (fun _ => 0))) (fun _ => rfl) (by decide) (by decide) (Nat.le_of_ble_eq_true rfl) (Nat.le_of_ble_eq_true rfl) (Nat.le_of_ble_eq_true rfl) dX0_init_26 (fun H hG hat_n oq hS => ?_)
  have hat_a0 : va_at D vwCl (a0, .inr (0, [.ref K, .ref (K + 5), .int 0, .null, .null, .null, .int 0])) H := hat_a0.kept (oq _ (by omega))
  refine W.widen (k := 7) (n := 55) (Nat.le_of_ble_eq_true rfl) (Nat.le_of_ble_eq_true rfl) ?_
  have hG : rc_G D cy ld t (a0 :: X) (K + 7) H := rc_G.close hG hat_n ht6 (rc_arr (by decide) (by decide) (fun j hj => by show 0 ≤ ((0 : Int32).toInt) ∧ _; decide))
  refine rc_putF (ci := 0) (v := .ref (K + 6)) (ty := .array (.int)) (C := RX0) (T := TX0) (N := 7) hx hb htl inX0 tyX0 tyX0_ok nmX0 hown hK hat_a0 rfl 5 (by decide) (htl _ mw_165) (fun _ h9 => h9) rfl hin rfl (tyX0_ok 5 (by decide)) rfl rfl (Nat.le_of_ble_eq_true rfl) dX0_init_28 (fun H j9 hat_n z9 oq => ?_)
  have hS := hS.put (k := j9) z9 oq (by show _ = _ ∨ _ ≤ _; omega)
  have hat_a0 : va_at D vwCl (a0, .inr (0, [.ref K, .ref (K + 5), .int 0, .null, .null, .ref (K + 6), .int 0])) H := hat_n
  have hG : rc_G D cy ld t (a0 :: X) (K + 7) H := hG.ajar (by simp) z9 oq
  refine lv_aload_n hx hb dX0_init_31 rfl (lv_at hl 0 rfl) ?_
  refine lv_aload_n hx hb dX0_init_32 rfl (lv_at hl 1 rfl) ?_
  refine rc_putF (ci := 0) (v := .ref a1) (ty := .object "CradleDuel$Hills") (C := RX0) (T := TX0) (N := 7) hx hb htl inX0 tyX0 tyX0_ok nmX0 hown hK hat_a0 rfl 3 (by decide) (htl _ mw_166) (fun _ h9 => h9) rfl hin rfl (tyX0_ok 3 (by decide)) rfl rfl (Nat.le_of_ble_eq_true rfl) dX0_init_33 (fun H j9 hat_n z9 oq => ?_)
  have hS := hS.put (k := j9) z9 oq (by show _ = _ ∨ _ ≤ _; omega)
  have hat_a0 : va_at D vwCl (a0, .inr (0, [.ref K, .ref (K + 5), .int 0, .ref a1, .null, .ref (K + 6), .int 0])) H := hat_n
  have hG : rc_G D cy ld t (a0 :: X) (K + 7) H := hG.ajar (by simp) z9 oq
  refine lv_aload_n hx hb dX0_init_36 rfl (lv_at hl 0 rfl) ?_
  refine lv_aload_n hx hb dX0_init_37 rfl (lv_at hl 2 rfl) ?_
  refine rc_putF (ci := 0) (v := .ref a2) (ty := .object "CradleDuel$Singing") (C := RX0) (T := TX0) (N := 7) hx hb htl inX0 tyX0 tyX0_ok nmX0 hown hK hat_a0 rfl 4 (by decide) (htl _ mw_167) (fun _ h9 => h9) rfl hin rfl (tyX0_ok 4 (by decide)) rfl rfl (Nat.le_of_ble_eq_true rfl) dX0_init_38 (fun H j9 hat_n z9 oq => ?_)
  have hS := hS.put (k := j9) z9 oq (by show _ = _ ∨ _ ≤ _; omega)
  have hat_a0 : va_at D vwCl (a0, .inr (0, [.ref K, .ref (K + 5), .int 0, .ref a1, .ref a2, .ref (K + 6), .int 0])) H := hat_n
  have hG : rc_G D cy ld t (a0 :: X) (K + 7) H := hG.ajar (by simp) z9 oq
  have hG : rc_G D cy ld t X (K + 7) H := hG.close hat_a0 ht_a0 (rc_obj (ci := 0) (by decide) rfl (fun j sp hj => by
      match j, hj with
      | 0, hj => cases hj; exact ⟨_, rfl, congrArg Value.ref hl0.symm, (congrArg t hl0).trans ht0⟩
      | 1, hj => cases hj; exact ⟨_, rfl, _, rfl, ht5⟩
      | 2, hj => cases hj; exact ⟨_, rfl, _, rfl, by decide, by decide⟩
      | 3, hj => cases hj; exact ⟨_, rfl, congrArg Value.ref hl_20.symm, (congrArg t hl_20).trans ht_a1⟩
      | 4, hj => cases hj; exact ⟨_, rfl, _, rfl, ht_a2⟩
      | 5, hj => cases hj; exact ⟨_, rfl, _, rfl, ht6⟩
      | 6, hj => cases hj; exact ⟨_, rfl, _, rfl, by decide, by decide⟩
      | j + 7, hj => simp [tk_F] at hj) trivial)
  exact rc_vret hx hb hr hlocks hG hS dX0_init_41
theorem dX3_init_0 : decode cX3_init 0 = .ok (.aload_n 0, 1) := by decide +kernel
theorem dX3_init_1 : decode cX3_init 1 = .ok (.invokespecial 3, 3) := by decide +kernel
theorem dX3_init_4 : decode cX3_init 4 = .ok (.aload_n 0, 1) := by decide +kernel
theorem dX3_init_5 : decode cX3_init 5 = .ok (.iconst 4, 1) := by decide +kernel
theorem dX3_init_6 : decode cX3_init 6 = .ok (.newarray .int, 2) := by decide +kernel
theorem dX3_init_8 : decode cX3_init 8 = .ok (.putfield 11, 3) := by decide +kernel
theorem dX3_init_11 : decode cX3_init 11 = .ok (.aload_n 0, 1) := by decide +kernel
theorem dX3_init_12 : decode cX3_init 12 = .ok (.iconst 4, 1) := by decide +kernel
theorem dX3_init_13 : decode cX3_init 13 = .ok (.newarray .int, 2) := by decide +kernel
theorem dX3_init_15 : decode cX3_init 15 = .ok (.putfield 15, 3) := by decide +kernel
theorem dX3_init_18 : decode cX3_init 18 = .ok (.aload_n 0, 1) := by decide +kernel
theorem dX3_init_19 : decode cX3_init 19 = .ok (.aload_n 1, 1) := by decide +kernel
theorem dX3_init_20 : decode cX3_init 20 = .ok (.putfield 18, 3) := by decide +kernel
theorem dX3_init_23 : decode cX3_init 23 = .ok (.return_, 1) := by decide +kernel
set_option maxHeartbeats 8000000 in
set_option maxRecDepth 100000 in
theorem kc_X3 (l : Launch) (D : va_G) (cy : Nat → ClassId) (ld : Nat → Nat) (t : tk_T) (X : List Nat) (a0 K a1 : Nat) (ht_a0 : t a0 = (4, 0, 0)) (hH : rH3 ld t K) (ht_a1 : t a1 = (3, 0, 0)) (hl_20 : ld 20 = a1) (hX : ∀ q : Nat, a0 ≤ q → q ∉ X) : Met l yX3_init (wl yX3_init cX3_init 2 none) ({ frames := 3, cells := 2, slots := 8, locals := 140 }) (rcp D cy ld t X [.ref a0, .ref a1] a0 3 [.null, .null, .null, .int 0, .int 0] K) (rcq D cy ld t X a0 K (K + 2)) 2 8 (fun q => q = a0 ∨ K ≤ q) := by
  refine rc_met (y := yX3_init) (cc := cX3_init) (maxL := 2) (ret := none) (av := [.ref a0, .ref a1]) _ (by decide) (Nat.le_of_ble_eq_true rfl) ?_
  intro p e s m args below meth c hx hb hr hml hts htl hown hlocks hin hK H locs hbn hG hat_a0 hS ls hl
  have hown : s.vm.findClass RX3 = some m.cls := hown
  have hin : meth.name = "<init>" := hin
  have hl : lv_has ls 2 [(0, .ref a0), (1, .ref a1)] := hl
  obtain ⟨ht0, ht1⟩ := hH
  refine lv_aload_n hx hb dX3_init_0 rfl (lv_at hl 0 rfl) ?_
  refine W.objInit hx hb hown (htl _ mw_172) (htl _ mw_10) (htl _ mw_11) rfl (by rw [hml]; exact hl.1) rfl dX3_init_1 (Nat.le_of_ble_eq_true rfl) (Nat.le_of_ble_eq_true rfl) ?_
  refine W.eq (g2 := F0 m 4 ls []) rfl ?_
  refine lv_aload_n hx hb dX3_init_4 rfl (lv_at hl 0 rfl) ?_
  refine lv_iconst (v := 4) hx hb dX3_init_5 (by decide) ?_
  refine rc_newa hx hb (htl _ mw_32) rfl hK hG hS 0 rfl (fun _ h => h) (a0 := (4, .inl (fun _ => 0))) (fun _ => rfl) (by decide) (by decide) (Nat.le_of_ble_eq_true rfl) (Nat.le_of_ble_eq_true rfl) (Nat.le_of_ble_eq_true rfl) dX3_init_6 (fun H hG hat_n oq hS => ?_)
  have hat_a0 : va_at D vwCl (a0, .inr (3, [.null, .null, .null, .int 0, .int 0])) H := hat_a0.kept (oq _ (by omega))
  refine W.widen (k := 1) (n := 4) (Nat.le_of_ble_eq_true rfl) (Nat.le_of_ble_eq_true rfl) ?_
  have hG : rc_G D cy ld t (a0 :: X) (K + 1) H := rc_G.close hG hat_n ht0 (rc_arr (by decide) (by decide) (fun j hj => by show 0 ≤ ((0 : Int32).toInt) ∧ _; decide))
  refine rc_putF (ci := 3) (v := .ref K) (ty := .array (.int)) (C := RX3) (T := TX3) (N := 5) hx hb htl inX3 tyX3 tyX3_ok nmX3 hown hK hat_a0 rfl 1 (by decide) (htl _ mw_173) (fun _ h9 => h9) rfl hin rfl (tyX3_ok 1 (by decide)) rfl rfl (Nat.le_of_ble_eq_true rfl) dX3_init_8 (fun H j9 hat_n z9 oq => ?_)
  have hS := hS.put (k := j9) z9 oq (by show _ = _ ∨ _ ≤ _; omega)
  have hat_a0 : va_at D vwCl (a0, .inr (3, [.null, .ref K, .null, .int 0, .int 0])) H := hat_n
  have hG : rc_G D cy ld t (a0 :: X) (K + 1) H := hG.ajar (by simp) z9 oq
  refine lv_aload_n hx hb dX3_init_11 rfl (lv_at hl 0 rfl) ?_
  refine lv_iconst (v := 4) hx hb dX3_init_12 (by decide) ?_
  refine rc_newa hx hb (htl _ mw_32) rfl hK hG hS 0 rfl (fun _ h => h) (a0 := (4, .inl (fun _ => 0))) (fun _ => rfl) (by decide) (by decide) (Nat.le_of_ble_eq_true rfl) (Nat.le_of_ble_eq_true rfl) (Nat.le_of_ble_eq_true rfl) dX3_init_13 (fun H hG hat_n oq hS => ?_)
  have hat_a0 : va_at D vwCl (a0, .inr (3, [.null, .ref K, .null, .int 0, .int 0])) H := hat_a0.kept (oq _ (by omega))
  refine W.widen (k := 2) (n := 8) (Nat.le_of_ble_eq_true rfl) (Nat.le_of_ble_eq_true rfl) ?_
  have hG : rc_G D cy ld t (a0 :: X) (K + 2) H := rc_G.close hG hat_n ht1 (rc_arr (by decide) (by decide) (fun j hj => trivial))
  refine rc_putF (ci := 3) (v := .ref (K + 1)) (ty := .array (.int)) (C := RX3) (T := TX3) (N := 5) hx hb htl inX3 tyX3 tyX3_ok nmX3 hown hK hat_a0 rfl 2 (by decide) (htl _ mw_174) (fun _ h9 => h9) rfl hin rfl (tyX3_ok 2 (by decide)) rfl rfl (Nat.le_of_ble_eq_true rfl) dX3_init_15 (fun H j9 hat_n z9 oq => ?_)
  have hS := hS.put (k := j9) z9 oq (by show _ = _ ∨ _ ≤ _; omega)
  have hat_a0 : va_at D vwCl (a0, .inr (3, [.null, .ref K, .ref (K + 1), .int 0, .int 0])) H := hat_n
  have hG : rc_G D cy ld t (a0 :: X) (K + 2) H := hG.ajar (by simp) z9 oq
  refine lv_aload_n hx hb dX3_init_18 rfl (lv_at hl 0 rfl) ?_
  refine lv_aload_n hx hb dX3_init_19 rfl (lv_at hl 1 rfl) ?_
  refine rc_putF (ci := 3) (v := .ref a1) (ty := .object "CradleDuel$Hills") (C := RX3) (T := TX3) (N := 5) hx hb htl inX3 tyX3 tyX3_ok nmX3 hown hK hat_a0 rfl 0 (by decide) (htl _ mw_175) (fun _ h9 => h9) rfl hin rfl (tyX3_ok 0 (by decide)) rfl rfl (Nat.le_of_ble_eq_true rfl) dX3_init_20 (fun H j9 hat_n z9 oq => ?_)
  have hS := hS.put (k := j9) z9 oq (by show _ = _ ∨ _ ≤ _; omega)
  have hat_a0 : va_at D vwCl (a0, .inr (3, [.ref a1, .ref K, .ref (K + 1), .int 0, .int 0])) H := hat_n
  have hG : rc_G D cy ld t (a0 :: X) (K + 2) H := hG.ajar (by simp) z9 oq
  have hG : rc_G D cy ld t X (K + 2) H := hG.close hat_a0 ht_a0 (rc_obj (ci := 3) (by decide) rfl (fun j sp hj => by
      match j, hj with
      | 0, hj => cases hj; exact ⟨_, rfl, congrArg Value.ref hl_20.symm, (congrArg t hl_20).trans ht_a1⟩
      | 1, hj => cases hj; exact ⟨_, rfl, _, rfl, ht0⟩
      | 2, hj => cases hj; exact ⟨_, rfl, _, rfl, ht1⟩
      | 3, hj => cases hj; exact ⟨_, rfl, _, rfl, by decide, by decide⟩
      | 4, hj => cases hj; exact ⟨_, rfl, _, rfl, by decide, by decide⟩
      | j + 5, hj => simp [tk_F] at hj) trivial)
  exact rc_vret hx hb hr hlocks hG hS dX3_init_23
theorem dX10_init_0 : decode cX10_init 0 = .ok (.aload_n 0, 1) := by decide +kernel
theorem dX10_init_1 : decode cX10_init 1 = .ok (.invokespecial 3, 3) := by decide +kernel
theorem dX10_init_4 : decode cX10_init 4 = .ok (.aload_n 0, 1) := by decide +kernel
theorem dX10_init_5 : decode cX10_init 5 = .ok (.sipush 1000, 3) := by decide +kernel
theorem dX10_init_8 : decode cX10_init 8 = .ok (.newarray .int, 2) := by decide +kernel
theorem dX10_init_10 : decode cX10_init 10 = .ok (.putfield 9, 3) := by decide +kernel
theorem dX10_init_13 : decode cX10_init 13 = .ok (.aload_n 0, 1) := by decide +kernel
theorem dX10_init_14 : decode cX10_init 14 = .ok (.aload_n 1, 1) := by decide +kernel
theorem dX10_init_15 : decode cX10_init 15 = .ok (.putfield 15, 3) := by decide +kernel
theorem dX10_init_18 : decode cX10_init 18 = .ok (.aload_n 0, 1) := by decide +kernel
theorem dX10_init_19 : decode cX10_init 19 = .ok (.aload_n 2, 1) := by decide +kernel
theorem dX10_init_20 : decode cX10_init 20 = .ok (.putfield 19, 3) := by decide +kernel
theorem dX10_init_23 : decode cX10_init 23 = .ok (.return_, 1) := by decide +kernel
set_option maxHeartbeats 8000000 in
set_option maxRecDepth 100000 in
theorem kc_X10 (l : Launch) (D : va_G) (cy : Nat → ClassId) (ld : Nat → Nat) (t : tk_T) (X : List Nat) (a0 K a1 a2 : Nat) (ht_a0 : t a0 = (11, 0, 0)) (hH : rH10 ld t K) (ht_a1 : t a1 = (3, 0, 0)) (hl_20 : ld 20 = a1) (ht_a2 : t a2 = (9, 0, 0)) (hX : ∀ q : Nat, a0 ≤ q → q ∉ X) : Met l yX10_init (wl yX10_init cX10_init 3 none) ({ frames := 3, cells := 1, slots := 1000, locals := 140 }) (rcp D cy ld t X [.ref a0, .ref a1, .ref a2] a0 10 [.null, .null, .null] K) (rcq D cy ld t X a0 K (K + 1)) 1 1000 (fun q => q = a0 ∨ K ≤ q) := by
  refine rc_met (y := yX10_init) (cc := cX10_init) (maxL := 3) (ret := none) (av := [.ref a0, .ref a1, .ref a2]) _ (by decide) (Nat.le_of_ble_eq_true rfl) ?_
  intro p e s m args below meth c hx hb hr hml hts htl hown hlocks hin hK H locs hbn hG hat_a0 hS ls hl
  have hown : s.vm.findClass RX10 = some m.cls := hown
  have hin : meth.name = "<init>" := hin
  have hl : lv_has ls 3 [(0, .ref a0), (1, .ref a1), (2, .ref a2)] := hl
  have ht0 := hH
  refine lv_aload_n hx hb dX10_init_0 rfl (lv_at hl 0 rfl) ?_
  refine W.objInit hx hb hown (htl _ mw_179) (htl _ mw_10) (htl _ mw_11) rfl (by rw [hml]; exact hl.1) rfl dX10_init_1 (Nat.le_of_ble_eq_true rfl) (Nat.le_of_ble_eq_true rfl) ?_
  refine W.eq (g2 := F0 m 4 ls []) rfl ?_
  refine lv_aload_n hx hb dX10_init_4 rfl (lv_at hl 0 rfl) ?_
  refine lv_sipush (v := 1000) hx hb dX10_init_5 (by decide) ?_
  refine rc_newa hx hb (htl _ mw_32) rfl hK hG hS 0 rfl (fun _ h => h) (a0 := (1000, .inl (fun _ => 0))) (fun _ => rfl) (by decide) (by decide) (Nat.le_of_ble_eq_true rfl) (Nat.le_of_ble_eq_true rfl) (Nat.le_of_ble_eq_true rfl) dX10_init_8 (fun H hG hat_n oq hS => ?_)
  have hat_a0 : va_at D vwCl (a0, .inr (10, [.null, .null, .null])) H := hat_a0.kept (oq _ (by omega))
  refine W.widen (k := 1) (n := 1000) (Nat.le_of_ble_eq_true rfl) (Nat.le_of_ble_eq_true rfl) ?_
  have hG : rc_G D cy ld t (a0 :: X) (K + 1) H := rc_G.close hG hat_n ht0 (rc_arr (by decide) (by decide) (fun j hj => trivial))
  refine rc_putF (ci := 10) (v := .ref K) (ty := .array (.int)) (C := RX10) (T := TX10) (N := 3) hx hb htl inX10 tyX10 tyX10_ok nmX10 hown hK hat_a0 rfl 2 (by decide) (htl _ mw_180) (fun _ h9 => h9) rfl hin rfl (tyX10_ok 2 (by decide)) rfl rfl (Nat.le_of_ble_eq_true rfl) dX10_init_10 (fun H j9 hat_n z9 oq => ?_)
  have hS := hS.put (k := j9) z9 oq (by show _ = _ ∨ _ ≤ _; omega)
  have hat_a0 : va_at D vwCl (a0, .inr (10, [.null, .null, .ref K])) H := hat_n
  have hG : rc_G D cy ld t (a0 :: X) (K + 1) H := hG.ajar (by simp) z9 oq
  refine lv_aload_n hx hb dX10_init_13 rfl (lv_at hl 0 rfl) ?_
  refine lv_aload_n hx hb dX10_init_14 rfl (lv_at hl 1 rfl) ?_
  refine rc_putF (ci := 10) (v := .ref a1) (ty := .object "CradleDuel$Hills") (C := RX10) (T := TX10) (N := 3) hx hb htl inX10 tyX10 tyX10_ok nmX10 hown hK hat_a0 rfl 0 (by decide) (htl _ mw_181) (fun _ h9 => h9) rfl hin rfl (tyX10_ok 0 (by decide)) rfl rfl (Nat.le_of_ble_eq_true rfl) dX10_init_15 (fun H j9 hat_n z9 oq => ?_)
  have hS := hS.put (k := j9) z9 oq (by show _ = _ ∨ _ ≤ _; omega)
  have hat_a0 : va_at D vwCl (a0, .inr (10, [.ref a1, .null, .ref K])) H := hat_n
  have hG : rc_G D cy ld t (a0 :: X) (K + 1) H := hG.ajar (by simp) z9 oq
  refine lv_aload_n hx hb dX10_init_18 rfl (lv_at hl 0 rfl) ?_
  refine lv_aload_n hx hb dX10_init_19 rfl (lv_at hl 2 rfl) ?_
  refine rc_putF (ci := 10) (v := .ref a2) (ty := .object "CradleDuel$Singing") (C := RX10) (T := TX10) (N := 3) hx hb htl inX10 tyX10 tyX10_ok nmX10 hown hK hat_a0 rfl 1 (by decide) (htl _ mw_182) (fun _ h9 => h9) rfl hin rfl (tyX10_ok 1 (by decide)) rfl rfl (Nat.le_of_ble_eq_true rfl) dX10_init_20 (fun H j9 hat_n z9 oq => ?_)
  have hS := hS.put (k := j9) z9 oq (by show _ = _ ∨ _ ≤ _; omega)
  have hat_a0 : va_at D vwCl (a0, .inr (10, [.ref a1, .ref a2, .ref K])) H := hat_n
  have hG : rc_G D cy ld t (a0 :: X) (K + 1) H := hG.ajar (by simp) z9 oq
  have hG : rc_G D cy ld t X (K + 1) H := hG.close hat_a0 ht_a0 (rc_obj (ci := 10) (by decide) rfl (fun j sp hj => by
      match j, hj with
      | 0, hj => cases hj; exact ⟨_, rfl, congrArg Value.ref hl_20.symm, (congrArg t hl_20).trans ht_a1⟩
      | 1, hj => cases hj; exact ⟨_, rfl, _, rfl, ht_a2⟩
      | 2, hj => cases hj; exact ⟨_, rfl, _, rfl, ht0⟩
      | j + 3, hj => simp [tk_F] at hj) trivial)
  exact rc_vret hx hb hr hlocks hG hS dX10_init_23
theorem dX12_init_0 : decode cX12_init 0 = .ok (.aload_n 0, 1) := by decide +kernel
theorem dX12_init_1 : decode cX12_init 1 = .ok (.invokespecial 1, 3) := by decide +kernel
theorem dX12_init_4 : decode cX12_init 4 = .ok (.aload_n 0, 1) := by decide +kernel
theorem dX12_init_5 : decode cX12_init 5 = .ok (.new 7, 3) := by decide +kernel
theorem dX12_init_8 : decode cX12_init 8 = .ok (.dup, 1) := by decide +kernel
theorem dX12_init_9 : decode cX12_init 9 = .ok (.invokespecial 9, 3) := by decide +kernel
theorem dX12_init_12 : decode cX12_init 12 = .ok (.putfield 10, 3) := by decide +kernel
theorem dX12_init_15 : decode cX12_init 15 = .ok (.aload_n 0, 1) := by decide +kernel
theorem dX12_init_16 : decode cX12_init 16 = .ok (.iconst 2, 1) := by decide +kernel
theorem dX12_init_17 : decode cX12_init 17 = .ok (.anewarray 7, 3) := by decide +kernel
theorem dX12_init_20 : decode cX12_init 20 = .ok (.dup, 1) := by decide +kernel
theorem dX12_init_21 : decode cX12_init 21 = .ok (.iconst 0, 1) := by decide +kernel
theorem dX12_init_22 : decode cX12_init 22 = .ok (.new 7, 3) := by decide +kernel
theorem dX12_init_25 : decode cX12_init 25 = .ok (.dup, 1) := by decide +kernel
theorem dX12_init_26 : decode cX12_init 26 = .ok (.invokespecial 9, 3) := by decide +kernel
theorem dX12_init_29 : decode cX12_init 29 = .ok (.aastore, 1) := by decide +kernel
theorem dX12_init_30 : decode cX12_init 30 = .ok (.dup, 1) := by decide +kernel
theorem dX12_init_31 : decode cX12_init 31 = .ok (.iconst 1, 1) := by decide +kernel
theorem dX12_init_32 : decode cX12_init 32 = .ok (.new 7, 3) := by decide +kernel
theorem dX12_init_35 : decode cX12_init 35 = .ok (.dup, 1) := by decide +kernel
theorem dX12_init_36 : decode cX12_init 36 = .ok (.invokespecial 9, 3) := by decide +kernel
theorem dX12_init_39 : decode cX12_init 39 = .ok (.aastore, 1) := by decide +kernel
theorem dX12_init_40 : decode cX12_init 40 = .ok (.putfield 16, 3) := by decide +kernel
theorem dX12_init_43 : decode cX12_init 43 = .ok (.aload_n 0, 1) := by decide +kernel
theorem dX12_init_44 : decode cX12_init 44 = .ok (.iconst 2, 1) := by decide +kernel
theorem dX12_init_45 : decode cX12_init 45 = .ok (.newarray .boolean, 2) := by decide +kernel
theorem dX12_init_47 : decode cX12_init 47 = .ok (.putfield 20, 3) := by decide +kernel
theorem dX12_init_50 : decode cX12_init 50 = .ok (.aload_n 0, 1) := by decide +kernel
theorem dX12_init_51 : decode cX12_init 51 = .ok (.new 24, 3) := by decide +kernel
theorem dX12_init_54 : decode cX12_init 54 = .ok (.dup, 1) := by decide +kernel
theorem dX12_init_55 : decode cX12_init 55 = .ok (.aload_n 0, 1) := by decide +kernel
theorem dX12_init_56 : decode cX12_init 56 = .ok (.getfield 10, 3) := by decide +kernel
theorem dX12_init_59 : decode cX12_init 59 = .ok (.invokespecial 26, 3) := by decide +kernel
theorem dX12_init_62 : decode cX12_init 62 = .ok (.putfield 29, 3) := by decide +kernel
theorem dX12_init_65 : decode cX12_init 65 = .ok (.aload_n 0, 1) := by decide +kernel
theorem dX12_init_66 : decode cX12_init 66 = .ok (.new 33, 3) := by decide +kernel
theorem dX12_init_69 : decode cX12_init 69 = .ok (.dup, 1) := by decide +kernel
theorem dX12_init_70 : decode cX12_init 70 = .ok (.aload_n 0, 1) := by decide +kernel
theorem dX12_init_71 : decode cX12_init 71 = .ok (.getfield 10, 3) := by decide +kernel
theorem dX12_init_74 : decode cX12_init 74 = .ok (.aload_n 0, 1) := by decide +kernel
theorem dX12_init_75 : decode cX12_init 75 = .ok (.getfield 29, 3) := by decide +kernel
theorem dX12_init_78 : decode cX12_init 78 = .ok (.invokespecial 35, 3) := by decide +kernel
theorem dX12_init_81 : decode cX12_init 81 = .ok (.putfield 38, 3) := by decide +kernel
theorem dX12_init_84 : decode cX12_init 84 = .ok (.aload_n 0, 1) := by decide +kernel
theorem dX12_init_85 : decode cX12_init 85 = .ok (.new 42, 3) := by decide +kernel
theorem dX12_init_88 : decode cX12_init 88 = .ok (.dup, 1) := by decide +kernel
theorem dX12_init_89 : decode cX12_init 89 = .ok (.aload_n 0, 1) := by decide +kernel
theorem dX12_init_90 : decode cX12_init 90 = .ok (.getfield 10, 3) := by decide +kernel
theorem dX12_init_93 : decode cX12_init 93 = .ok (.aload_n 0, 1) := by decide +kernel
theorem dX12_init_94 : decode cX12_init 94 = .ok (.getfield 38, 3) := by decide +kernel
theorem dX12_init_97 : decode cX12_init 97 = .ok (.aload_n 0, 1) := by decide +kernel
theorem dX12_init_98 : decode cX12_init 98 = .ok (.getfield 29, 3) := by decide +kernel
theorem dX12_init_101 : decode cX12_init 101 = .ok (.getfield 44, 3) := by decide +kernel
theorem dX12_init_104 : decode cX12_init 104 = .ok (.invokespecial 48, 3) := by decide +kernel
theorem dX12_init_107 : decode cX12_init 107 = .ok (.putfield 51, 3) := by decide +kernel
theorem dX12_init_110 : decode cX12_init 110 = .ok (.aload_n 0, 1) := by decide +kernel
theorem dX12_init_111 : decode cX12_init 111 = .ok (.sipush 400, 3) := by decide +kernel
theorem dX12_init_114 : decode cX12_init 114 = .ok (.newarray .int, 2) := by decide +kernel
theorem dX12_init_116 : decode cX12_init 116 = .ok (.putfield 55, 3) := by decide +kernel
theorem dX12_init_119 : decode cX12_init 119 = .ok (.aload_n 0, 1) := by decide +kernel
theorem dX12_init_120 : decode cX12_init 120 = .ok (.new 59, 3) := by decide +kernel
theorem dX12_init_123 : decode cX12_init 123 = .ok (.dup, 1) := by decide +kernel
theorem dX12_init_124 : decode cX12_init 124 = .ok (.aload_n 0, 1) := by decide +kernel
theorem dX12_init_125 : decode cX12_init 125 = .ok (.getfield 55, 3) := by decide +kernel
theorem dX12_init_128 : decode cX12_init 128 = .ok (.invokespecial 61, 3) := by decide +kernel
theorem dX12_init_131 : decode cX12_init 131 = .ok (.putfield 64, 3) := by decide +kernel
theorem dX12_init_134 : decode cX12_init 134 = .ok (.aload_n 0, 1) := by decide +kernel
theorem dX12_init_135 : decode cX12_init 135 = .ok (.new 68, 3) := by decide +kernel
theorem dX12_init_138 : decode cX12_init 138 = .ok (.dup, 1) := by decide +kernel
theorem dX12_init_139 : decode cX12_init 139 = .ok (.aload_n 0, 1) := by decide +kernel
theorem dX12_init_140 : decode cX12_init 140 = .ok (.getfield 10, 3) := by decide +kernel
theorem dX12_init_143 : decode cX12_init 143 = .ok (.aload_n 0, 1) := by decide +kernel
theorem dX12_init_144 : decode cX12_init 144 = .ok (.getfield 29, 3) := by decide +kernel
theorem dX12_init_147 : decode cX12_init 147 = .ok (.invokespecial 70, 3) := by decide +kernel
theorem dX12_init_150 : decode cX12_init 150 = .ok (.putfield 71, 3) := by decide +kernel
theorem dX12_init_153 : decode cX12_init 153 = .ok (.aload_n 0, 1) := by decide +kernel
theorem dX12_init_154 : decode cX12_init 154 = .ok (.new 75, 3) := by decide +kernel
theorem dX12_init_157 : decode cX12_init 157 = .ok (.dup, 1) := by decide +kernel
theorem dX12_init_158 : decode cX12_init 158 = .ok (.aload_n 0, 1) := by decide +kernel
theorem dX12_init_159 : decode cX12_init 159 = .ok (.getfield 10, 3) := by decide +kernel
theorem dX12_init_162 : decode cX12_init 162 = .ok (.aload_n 0, 1) := by decide +kernel
theorem dX12_init_163 : decode cX12_init 163 = .ok (.getfield 29, 3) := by decide +kernel
theorem dX12_init_166 : decode cX12_init 166 = .ok (.invokespecial 77, 3) := by decide +kernel
theorem dX12_init_169 : decode cX12_init 169 = .ok (.putfield 78, 3) := by decide +kernel
theorem dX12_init_172 : decode cX12_init 172 = .ok (.aload_n 0, 1) := by decide +kernel
theorem dX12_init_173 : decode cX12_init 173 = .ok (.new 82, 3) := by decide +kernel
theorem dX12_init_176 : decode cX12_init 176 = .ok (.dup, 1) := by decide +kernel
theorem dX12_init_177 : decode cX12_init 177 = .ok (.aload_n 0, 1) := by decide +kernel
theorem dX12_init_178 : decode cX12_init 178 = .ok (.getfield 10, 3) := by decide +kernel
theorem dX12_init_181 : decode cX12_init 181 = .ok (.invokespecial 84, 3) := by decide +kernel
theorem dX12_init_184 : decode cX12_init 184 = .ok (.putfield 85, 3) := by decide +kernel
theorem dX12_init_187 : decode cX12_init 187 = .ok (.aload_n 0, 1) := by decide +kernel
theorem dX12_init_188 : decode cX12_init 188 = .ok (.new 89, 3) := by decide +kernel
theorem dX12_init_191 : decode cX12_init 191 = .ok (.dup, 1) := by decide +kernel
theorem dX12_init_192 : decode cX12_init 192 = .ok (.aload_n 0, 1) := by decide +kernel
theorem dX12_init_193 : decode cX12_init 193 = .ok (.getfield 10, 3) := by decide +kernel
theorem dX12_init_196 : decode cX12_init 196 = .ok (.aload_n 0, 1) := by decide +kernel
theorem dX12_init_197 : decode cX12_init 197 = .ok (.getfield 29, 3) := by decide +kernel
theorem dX12_init_200 : decode cX12_init 200 = .ok (.invokespecial 91, 3) := by decide +kernel
theorem dX12_init_203 : decode cX12_init 203 = .ok (.putfield 92, 3) := by decide +kernel
theorem dX12_init_206 : decode cX12_init 206 = .ok (.aload_n 0, 1) := by decide +kernel
theorem dX12_init_207 : decode cX12_init 207 = .ok (.iconst 5, 1) := by decide +kernel
theorem dX12_init_208 : decode cX12_init 208 = .ok (.newarray .int, 2) := by decide +kernel
theorem dX12_init_210 : decode cX12_init 210 = .ok (.putfield 96, 3) := by decide +kernel
theorem dX12_init_213 : decode cX12_init 213 = .ok (.aload_n 0, 1) := by decide +kernel
theorem dX12_init_214 : decode cX12_init 214 = .ok (.iconst (-1), 1) := by decide +kernel
theorem dX12_init_215 : decode cX12_init 215 = .ok (.putfield 99, 3) := by decide +kernel
theorem dX12_init_218 : decode cX12_init 218 = .ok (.return_, 1) := by decide +kernel
set_option maxHeartbeats 8000000 in
set_option maxRecDepth 100000 in
theorem kc_X12 (l : Launch) (D : va_G) (cy : Nat → ClassId) (ld : Nat → Nat) (t : tk_T) (X : List Nat) (a0 K : Nat) (ht_a0 : t a0 = (13, 0, 0)) (hH : rH12 ld t K) (hX : ∀ q : Nat, a0 ≤ q → q ∉ X) : Met l yX12_init (wl yX12_init cX12_init 1 none) ({ frames := 5, cells := 291, slots := 4816, locals := 280 }) (rcp D cy ld t X [.ref a0] a0 12 [.null, .null, .null, .null, .null, .null, .null, .null, .null, .null, .null, .null, .null, .int 0, .int 0, .int 0, .int 0] K) (rcqa D cy ld t X a0 K (K + 291) (.inr (12, [.ref K, .ref (K + 16), .ref (K + 49), .ref (K + 50), .ref (K + 54), .ref (K + 224), .ref (K + 226), .ref (K + 234), .ref (K + 277), .ref (K + 285), .ref (K + 288), .ref (K + 225), .ref (K + 290), .int 0, .int (-1), .int 0, .int 0])) [(K, .inr (2, [.int 0, .ref (K + 1), .ref (K + 2), .ref (K + 3), .int 0, .ref (K + 4), .ref (K + 5), .int 0, .ref (K + 6), .ref (K + 7), .ref (K + 8), .int 0, .ref (K + 9), .int 0, .ref (K + 10), .int (-1), .int 30, .int 50, .int 0, .ref (K + 11)])), ((K + 49), .inl (cy 2, 2, .inl (fun _ => 0)))]) 291 4816 (fun q => q = a0 ∨ K ≤ q) := by
  refine rc_met (y := yX12_init) (cc := cX12_init) (maxL := 1) (ret := none) (av := [.ref a0]) _ (by decide) (Nat.le_of_ble_eq_true rfl) ?_
  intro p e s m args below meth c hx hb hr hml hts htl hown hlocks hin hK H locs hbn hG hat_a0 hS ls hl
  have hown : s.vm.findClass RX12 = some m.cls := hown
  have hin : meth.name = "<init>" := hin
  have hl : lv_has ls 1 [(0, .ref a0)] := hl
  obtain ⟨ht0, hs1, ht16, ht17, hs18, ht33, hs34, ht49, ht50, hs51, ht54, hs55, ht224, ht225, ht226, hs227, ht234, hs235, ht277, hs278, ht285, hs286, ht288, hs289, ht290, hl_20, hl17, hl33, hl49, hl225⟩ := hH
  refine lv_aload_n hx hb dX12_init_0 rfl (lv_at hl 0 rfl) ?_
  refine W.objInit hx hb hown (htl _ mw_9) (htl _ mw_10) (htl _ mw_11) rfl (by rw [hml]; exact hl.1) rfl dX12_init_1 (Nat.le_of_ble_eq_true rfl) (Nat.le_of_ble_eq_true rfl) ?_
  refine W.eq (g2 := F0 m 4 ls []) rfl ?_
  refine lv_aload_n hx hb dX12_init_4 rfl (lv_at hl 0 rfl) ?_
  refine rc_new (ci := 2) (fs := [.int 0, .null, .null, .null, .int 0, .null, .null, .int 0, .null, .null, .null, .int 0, .null, .int 0, .null, .int 0, .int 0, .int 0, .int 0, .null]) (C := RX2) (T := TX2) (N := 20) hx hb htl inX2 tyX2 tyX2_ok hown (htl _ mw_12) (htl _ mw_13) (htl _ mw_14) hK hG hS rfl dfX2 (Nat.le_of_ble_eq_true rfl) (Nat.le_of_ble_eq_true rfl) dX12_init_5 (fun H hG hat_n oq hS => ?_)
  have hat_a0 : va_at D vwCl (a0, .inr (12, [.null, .null, .null, .null, .null, .null, .null, .null, .null, .null, .null, .null, .null, .int 0, .int 0, .int 0, .int 0])) H := hat_a0.kept (oq _ (by omega))
  refine W.widen (k := 1) (n := 20) (Nat.le_of_ble_eq_true rfl) (Nat.le_of_ble_eq_true rfl) ?_
  have hG : rc_G D cy ld t (K :: a0 :: X) (K + 1) H := hG
  have hat_K : va_at D vwCl (K, .inr (2, [.int 0, .null, .null, .null, .int 0, .null, .null, .int 0, .null, .null, .null, .int 0, .null, .int 0, .null, .int 0, .int 0, .int 0, .int 0, .null])) H := hat_n
  refine lv_dup hx hb dX12_init_8 rfl ?_
  have hXX := kc_X2 l D cy ld t (a0 :: X) K (K + 1) 0 ht0 hs1  (fun q hq => rc_nin (by omega) (hX q (by omega)))
  refine rc_Ia (As := []) (rest := [.ref K, .ref a0]) (ci := 2) (n1 := (K + 16)) ⟨hx, hb, hml, hown, hts⟩ hK hG hat_K hS (fun q h9 => by show _ = _ ∨ _ ≤ _; omega) hXX ⟨callB_of 0 hts (wl_in mw_58) rfl rfl rfl (htl _ mw_14) (htl _ mw_56) hd_yX2_init ⟨(Nat.le_of_ble_eq_true rfl), (Nat.le_of_ble_eq_true rfl)⟩, rfl, htl _ mw_57⟩ rfl hl.1 rfl (Nat.le_of_ble_eq_true rfl) dX12_init_9 ⟨(Nat.le_of_ble_eq_true rfl), (Nat.le_of_ble_eq_true rfl)⟩ (fun H locs hG hat_x oq hS => ?_)
  have hat_a0 : va_at D vwCl (a0, .inr (12, [.null, .null, .null, .null, .null, .null, .null, .null, .null, .null, .null, .null, .null, .int 0, .int 0, .int 0, .int 0])) H := hat_a0.kept (oq _ (by omega) (by omega))
  have hath : va_at D vwCl (K, .inr (2, [.int 0, .ref (K + 1), .ref (K + 2), .ref (K + 3), .int 0, .ref (K + 4), .ref (K + 5), .int 0, .ref (K + 6), .ref (K + 7), .ref (K + 8), .int 0, .ref (K + 9), .int 0, .ref (K + 10), .int (-1), .int 30, .int 50, .int 0, .ref (K + 11)])) H := hat_x.1
  refine W.widen (k := 16) (n := 177) (Nat.le_of_ble_eq_true rfl) (Nat.le_of_ble_eq_true rfl) ?_
  have hG : rc_G D cy ld t (a0 :: X) (K + 16) H := hG
  refine rc_putF (ci := 12) (v := .ref K) (ty := .object "CradleDuel$Hills") (C := RX12) (T := TX12) (N := 17) hx hb htl inX12 tyX12 tyX12_ok nmX12 hown hK hat_a0 rfl 0 (by decide) (htl _ mw_15) (fun _ h9 => h9) rfl hin rfl (tyX12_ok 0 (by decide)) rfl rfl (Nat.le_of_ble_eq_true rfl) dX12_init_12 (fun H j9 hat_n z9 oq => ?_)
  have hS := hS.put (k := j9) z9 oq (by show _ = _ ∨ _ ≤ _; omega)
  have hath : va_at D vwCl (K, .inr (2, [.int 0, .ref (K + 1), .ref (K + 2), .ref (K + 3), .int 0, .ref (K + 4), .ref (K + 5), .int 0, .ref (K + 6), .ref (K + 7), .ref (K + 8), .int 0, .ref (K + 9), .int 0, .ref (K + 10), .int (-1), .int 30, .int 50, .int 0, .ref (K + 11)])) H := hath.kept (oq _ (by omega))
  have hat_a0 : va_at D vwCl (a0, .inr (12, [.ref K, .null, .null, .null, .null, .null, .null, .null, .null, .null, .null, .null, .null, .int 0, .int 0, .int 0, .int 0])) H := hat_n
  have hG : rc_G D cy ld t (a0 :: X) (K + 16) H := hG.ajar (by simp) z9 oq
  refine lv_aload_n hx hb dX12_init_15 rfl (lv_at hl 0 rfl) ?_
  refine lv_iconst (v := 2) hx hb dX12_init_16 (by decide) ?_
  refine rc_newq (N' := 2) hx hb hown (htl _ mw_12) hK.2.1.2.1 hK hG hS 4 rfl (by decide) (by decide) (Nat.le_of_ble_eq_true rfl) (Nat.le_of_ble_eq_true rfl) (Nat.le_of_ble_eq_true rfl) dX12_init_17 (fun H hG hat_n oq hS => ?_)
  have hat_a0 : va_at D vwCl (a0, .inr (12, [.ref K, .null, .null, .null, .null, .null, .null, .null, .null, .null, .null, .null, .null, .int 0, .int 0, .int 0, .int 0])) H := hat_a0.kept (oq _ (by omega))
  have hath : va_at D vwCl (K, .inr (2, [.int 0, .ref (K + 1), .ref (K + 2), .ref (K + 3), .int 0, .ref (K + 4), .ref (K + 5), .int 0, .ref (K + 6), .ref (K + 7), .ref (K + 8), .int 0, .ref (K + 9), .int 0, .ref (K + 10), .int (-1), .int 30, .int 50, .int 0, .ref (K + 11)])) H := hath.kept (oq _ (by omega))
  refine W.widen (k := 17) (n := 179) (Nat.le_of_ble_eq_true rfl) (Nat.le_of_ble_eq_true rfl) ?_
  have hG : rc_G D cy ld t ((K + 16) :: a0 :: X) (K + 17) H := hG
  have hat_K16 : va_at D vwCl ((K + 16), .inl (cy 4, 2, .inr (.inr (.inr (.inr (fun _ => none)))))) H := hat_n
  refine lv_dup hx hb dX12_init_20 rfl ?_
  refine lv_iconst (v := 0) hx hb dX12_init_21 (by decide) ?_
  refine rc_new (ci := 2) (fs := [.int 0, .null, .null, .null, .int 0, .null, .null, .int 0, .null, .null, .null, .int 0, .null, .int 0, .null, .int 0, .int 0, .int 0, .int 0, .null]) (C := RX2) (T := TX2) (N := 20) hx hb htl inX2 tyX2 tyX2_ok hown (htl _ mw_12) (htl _ mw_13) (htl _ mw_14) hK hG hS rfl dfX2 (Nat.le_of_ble_eq_true rfl) (Nat.le_of_ble_eq_true rfl) dX12_init_22 (fun H hG hat_n oq hS => ?_)
  have hat_a0 : va_at D vwCl (a0, .inr (12, [.ref K, .null, .null, .null, .null, .null, .null, .null, .null, .null, .null, .null, .null, .int 0, .int 0, .int 0, .int 0])) H := hat_a0.kept (oq _ (by omega))
  have hat_K16 : va_at D vwCl ((K + 16), .inl (cy 4, 2, .inr (.inr (.inr (.inr (fun _ => none)))))) H := hat_K16.kept (oq _ (by omega))
  have hath : va_at D vwCl (K, .inr (2, [.int 0, .ref (K + 1), .ref (K + 2), .ref (K + 3), .int 0, .ref (K + 4), .ref (K + 5), .int 0, .ref (K + 6), .ref (K + 7), .ref (K + 8), .int 0, .ref (K + 9), .int 0, .ref (K + 10), .int (-1), .int 30, .int 50, .int 0, .ref (K + 11)])) H := hath.kept (oq _ (by omega))
  refine W.widen (k := 18) (n := 199) (Nat.le_of_ble_eq_true rfl) (Nat.le_of_ble_eq_true rfl) ?_
  have hG : rc_G D cy ld t ((K + 17) :: (K + 16) :: a0 :: X) (K + 18) H := hG
  have hat_K17 : va_at D vwCl ((K + 17), .inr (2, [.int 0, .null, .null, .null, .int 0, .null, .null, .int 0, .null, .null, .null, .int 0, .null, .int 0, .null, .int 0, .int 0, .int 0, .int 0, .null])) H := hat_n
  refine lv_dup hx hb dX12_init_25 rfl ?_
  have hXX := kc_X2 l D cy ld t ((K + 16) :: a0 :: X) (K + 17) (K + 18) 6 ht17 hs18  (fun q hq => rc_nin (by omega) (rc_nin (by omega) (hX q (by omega))))
  refine rc_Ia (As := []) (rest := [.ref (K + 17), .int 0, .ref (K + 16), .ref (K + 16), .ref a0]) (ci := 2) (n1 := (K + 33)) ⟨hx, hb, hml, hown, hts⟩ hK hG hat_K17 hS (fun q h9 => by show _ = _ ∨ _ ≤ _; omega) hXX ⟨callB_of 0 hts (wl_in mw_58) rfl rfl rfl (htl _ mw_14) (htl _ mw_56) hd_yX2_init ⟨(Nat.le_of_ble_eq_true rfl), (Nat.le_of_ble_eq_true rfl)⟩, rfl, htl _ mw_57⟩ rfl hl.1 rfl (Nat.le_of_ble_eq_true rfl) dX12_init_26 ⟨(Nat.le_of_ble_eq_true rfl), (Nat.le_of_ble_eq_true rfl)⟩ (fun H locs hG hat_x oq hS => ?_)
  have hat_a0 : va_at D vwCl (a0, .inr (12, [.ref K, .null, .null, .null, .null, .null, .null, .null, .null, .null, .null, .null, .null, .int 0, .int 0, .int 0, .int 0])) H := hat_a0.kept (oq _ (by omega) (by omega))
  have hat_K16 : va_at D vwCl ((K + 16), .inl (cy 4, 2, .inr (.inr (.inr (.inr (fun _ => none)))))) H := hat_K16.kept (oq _ (by omega) (by omega))
  have hath : va_at D vwCl (K, .inr (2, [.int 0, .ref (K + 1), .ref (K + 2), .ref (K + 3), .int 0, .ref (K + 4), .ref (K + 5), .int 0, .ref (K + 6), .ref (K + 7), .ref (K + 8), .int 0, .ref (K + 9), .int 0, .ref (K + 10), .int (-1), .int 30, .int 50, .int 0, .ref (K + 11)])) H := hath.kept (oq _ (by omega) (by omega))
  refine W.widen (k := 33) (n := 356) (Nat.le_of_ble_eq_true rfl) (Nat.le_of_ble_eq_true rfl) ?_
  have hG : rc_G D cy ld t ((K + 16) :: a0 :: X) (K + 33) H := hG
  obtain ⟨fs9, hv9, -⟩ := hG.obj (ci := 2) ht17 (by decide) (by omega) (rc_nin (by omega) ( rc_nin (by omega) (hX _ (by omega))))
  refine rc_aast (ci := 2) (r := (RX2, TX2, 20)) hx hb hK 4 hat_K16 rfl hv9 rfl (fx_in (by decide)) dX12_init_29 (fun H j9 hat_n z9 oq => ?_)
  have hS := hS.put (k := j9) z9 oq (by show _ = _ ∨ _ ≤ _; omega)
  have hat_a0 : va_at D vwCl (a0, .inr (12, [.ref K, .null, .null, .null, .null, .null, .null, .null, .null, .null, .null, .null, .null, .int 0, .int 0, .int 0, .int 0])) H := hat_a0.kept (oq _ (by omega))
  have hath : va_at D vwCl (K, .inr (2, [.int 0, .ref (K + 1), .ref (K + 2), .ref (K + 3), .int 0, .ref (K + 4), .ref (K + 5), .int 0, .ref (K + 6), .ref (K + 7), .ref (K + 8), .int 0, .ref (K + 9), .int 0, .ref (K + 10), .int (-1), .int 30, .int 50, .int 0, .ref (K + 11)])) H := hath.kept (oq _ (by omega))
  have hat_K16 : va_at D vwCl ((K + 16), .inl (cy 4, 2, .inr (.inr (.inr (.inr (va_up (fun _ => none) (0 : Int32).toNatClampNeg (some (K + 17)))))))) H := hat_n
  have hG : rc_G D cy ld t ((K + 16) :: a0 :: X) (K + 33) H := hG.ajar (by simp) z9 oq
  refine lv_dup hx hb dX12_init_30 rfl ?_
  refine lv_iconst (v := 1) hx hb dX12_init_31 (by decide) ?_
  refine rc_new (ci := 2) (fs := [.int 0, .null, .null, .null, .int 0, .null, .null, .int 0, .null, .null, .null, .int 0, .null, .int 0, .null, .int 0, .int 0, .int 0, .int 0, .null]) (C := RX2) (T := TX2) (N := 20) hx hb htl inX2 tyX2 tyX2_ok hown (htl _ mw_12) (htl _ mw_13) (htl _ mw_14) hK hG hS rfl dfX2 (Nat.le_of_ble_eq_true rfl) (Nat.le_of_ble_eq_true rfl) dX12_init_32 (fun H hG hat_n oq hS => ?_)
  have hat_a0 : va_at D vwCl (a0, .inr (12, [.ref K, .null, .null, .null, .null, .null, .null, .null, .null, .null, .null, .null, .null, .int 0, .int 0, .int 0, .int 0])) H := hat_a0.kept (oq _ (by omega))
  have hat_K16 : va_at D vwCl ((K + 16), .inl (cy 4, 2, .inr (.inr (.inr (.inr (va_up (fun _ => none) (0 : Int32).toNatClampNeg (some (K + 17)))))))) H := hat_K16.kept (oq _ (by omega))
  have hath : va_at D vwCl (K, .inr (2, [.int 0, .ref (K + 1), .ref (K + 2), .ref (K + 3), .int 0, .ref (K + 4), .ref (K + 5), .int 0, .ref (K + 6), .ref (K + 7), .ref (K + 8), .int 0, .ref (K + 9), .int 0, .ref (K + 10), .int (-1), .int 30, .int 50, .int 0, .ref (K + 11)])) H := hath.kept (oq _ (by omega))
  refine W.widen (k := 34) (n := 376) (Nat.le_of_ble_eq_true rfl) (Nat.le_of_ble_eq_true rfl) ?_
  have hG : rc_G D cy ld t ((K + 33) :: (K + 16) :: a0 :: X) (K + 34) H := hG
  have hat_K33 : va_at D vwCl ((K + 33), .inr (2, [.int 0, .null, .null, .null, .int 0, .null, .null, .int 0, .null, .null, .null, .int 0, .null, .int 0, .null, .int 0, .int 0, .int 0, .int 0, .null])) H := hat_n
  refine lv_dup hx hb dX12_init_35 rfl ?_
  have hXX := kc_X2 l D cy ld t ((K + 16) :: a0 :: X) (K + 33) (K + 34) 7 ht33 hs34  (fun q hq => rc_nin (by omega) (rc_nin (by omega) (hX q (by omega))))
  refine rc_Ia (As := []) (rest := [.ref (K + 33), .int 1, .ref (K + 16), .ref (K + 16), .ref a0]) (ci := 2) (n1 := (K + 49)) ⟨hx, hb, hml, hown, hts⟩ hK hG hat_K33 hS (fun q h9 => by show _ = _ ∨ _ ≤ _; omega) hXX ⟨callB_of 0 hts (wl_in mw_58) rfl rfl rfl (htl _ mw_14) (htl _ mw_56) hd_yX2_init ⟨(Nat.le_of_ble_eq_true rfl), (Nat.le_of_ble_eq_true rfl)⟩, rfl, htl _ mw_57⟩ rfl hl.1 rfl (Nat.le_of_ble_eq_true rfl) dX12_init_36 ⟨(Nat.le_of_ble_eq_true rfl), (Nat.le_of_ble_eq_true rfl)⟩ (fun H locs hG hat_x oq hS => ?_)
  have hat_a0 : va_at D vwCl (a0, .inr (12, [.ref K, .null, .null, .null, .null, .null, .null, .null, .null, .null, .null, .null, .null, .int 0, .int 0, .int 0, .int 0])) H := hat_a0.kept (oq _ (by omega) (by omega))
  have hat_K16 : va_at D vwCl ((K + 16), .inl (cy 4, 2, .inr (.inr (.inr (.inr (va_up (fun _ => none) (0 : Int32).toNatClampNeg (some (K + 17)))))))) H := hat_K16.kept (oq _ (by omega) (by omega))
  have hath : va_at D vwCl (K, .inr (2, [.int 0, .ref (K + 1), .ref (K + 2), .ref (K + 3), .int 0, .ref (K + 4), .ref (K + 5), .int 0, .ref (K + 6), .ref (K + 7), .ref (K + 8), .int 0, .ref (K + 9), .int 0, .ref (K + 10), .int (-1), .int 30, .int 50, .int 0, .ref (K + 11)])) H := hath.kept (oq _ (by omega) (by omega))
  refine W.widen (k := 49) (n := 533) (Nat.le_of_ble_eq_true rfl) (Nat.le_of_ble_eq_true rfl) ?_
  have hG : rc_G D cy ld t ((K + 16) :: a0 :: X) (K + 49) H := hG
  obtain ⟨fs9, hv9, -⟩ := hG.obj (ci := 2) ht33 (by decide) (by omega) (rc_nin (by omega) ( rc_nin (by omega) (hX _ (by omega))))
  refine rc_aast (ci := 2) (r := (RX2, TX2, 20)) hx hb hK 4 hat_K16 rfl hv9 rfl (fx_in (by decide)) dX12_init_39 (fun H j9 hat_n z9 oq => ?_)
  have hS := hS.put (k := j9) z9 oq (by show _ = _ ∨ _ ≤ _; omega)
  have hat_a0 : va_at D vwCl (a0, .inr (12, [.ref K, .null, .null, .null, .null, .null, .null, .null, .null, .null, .null, .null, .null, .int 0, .int 0, .int 0, .int 0])) H := hat_a0.kept (oq _ (by omega))
  have hath : va_at D vwCl (K, .inr (2, [.int 0, .ref (K + 1), .ref (K + 2), .ref (K + 3), .int 0, .ref (K + 4), .ref (K + 5), .int 0, .ref (K + 6), .ref (K + 7), .ref (K + 8), .int 0, .ref (K + 9), .int 0, .ref (K + 10), .int (-1), .int 30, .int 50, .int 0, .ref (K + 11)])) H := hath.kept (oq _ (by omega))
  have hat_K16 : va_at D vwCl ((K + 16), .inl (cy 4, 2, .inr (.inr (.inr (.inr (va_up (va_up (fun _ => none) (0 : Int32).toNatClampNeg (some (K + 17))) (1 : Int32).toNatClampNeg (some (K + 33)))))))) H := hat_n
  have hG : rc_G D cy ld t ((K + 16) :: a0 :: X) (K + 49) H := hG.ajar (by simp) z9 oq
  have hrow9 : ∀ j : Nat, j < 2 → tk_R ld t 27 0 j ((va_up (va_up (fun _ => none) (0 : Int32).toNatClampNeg (some (K + 17))) (1 : Int32).toNatClampNeg (some (K + 33))) j) := fun j hj => by
      match j, hj with
      | 0, _ => exact ⟨congrArg some hl17.symm, (congrArg t hl17).trans ht17⟩
      | 1, _ => exact ⟨congrArg some hl33.symm, (congrArg t hl33).trans ht33⟩
      | j + 2, h => exact absurd h (by omega)
  have hG : rc_G D cy ld t (a0 :: X) (K + 49) H := rc_G.close hG hat_K16 ht16 (rc_arrQ (c := 1) (by decide) (by decide) hrow9)
  refine rc_putF (ci := 12) (v := .ref (K + 16)) (ty := .array (.object "CradleDuel$Hills")) (C := RX12) (T := TX12) (N := 17) hx hb htl inX12 tyX12 tyX12_ok nmX12 hown hK hat_a0 rfl 1 (by decide) (htl _ mw_16) (fun _ h9 => h9) rfl hin rfl (tyX12_ok 1 (by decide)) rfl rfl (Nat.le_of_ble_eq_true rfl) dX12_init_40 (fun H j9 hat_n z9 oq => ?_)
  have hS := hS.put (k := j9) z9 oq (by show _ = _ ∨ _ ≤ _; omega)
  have hath : va_at D vwCl (K, .inr (2, [.int 0, .ref (K + 1), .ref (K + 2), .ref (K + 3), .int 0, .ref (K + 4), .ref (K + 5), .int 0, .ref (K + 6), .ref (K + 7), .ref (K + 8), .int 0, .ref (K + 9), .int 0, .ref (K + 10), .int (-1), .int 30, .int 50, .int 0, .ref (K + 11)])) H := hath.kept (oq _ (by omega))
  have hat_a0 : va_at D vwCl (a0, .inr (12, [.ref K, .ref (K + 16), .null, .null, .null, .null, .null, .null, .null, .null, .null, .null, .null, .int 0, .int 0, .int 0, .int 0])) H := hat_n
  have hG : rc_G D cy ld t (a0 :: X) (K + 49) H := hG.ajar (by simp) z9 oq
  refine lv_aload_n hx hb dX12_init_43 rfl (lv_at hl 0 rfl) ?_
  refine lv_iconst (v := 2) hx hb dX12_init_44 (by decide) ?_
  refine rc_newa hx hb (htl _ mw_17) rfl hK hG hS 2 rfl (fun _ h => h) (a0 := (2, .inl (fun _ => 0))) (fun _ => rfl) (by decide) (by decide) (Nat.le_of_ble_eq_true rfl) (Nat.le_of_ble_eq_true rfl) (Nat.le_of_ble_eq_true rfl) dX12_init_45 (fun H hG hat_n oq hS => ?_)
  have hat_a0 : va_at D vwCl (a0, .inr (12, [.ref K, .ref (K + 16), .null, .null, .null, .null, .null, .null, .null, .null, .null, .null, .null, .int 0, .int 0, .int 0, .int 0])) H := hat_a0.kept (oq _ (by omega))
  have hath : va_at D vwCl (K, .inr (2, [.int 0, .ref (K + 1), .ref (K + 2), .ref (K + 3), .int 0, .ref (K + 4), .ref (K + 5), .int 0, .ref (K + 6), .ref (K + 7), .ref (K + 8), .int 0, .ref (K + 9), .int 0, .ref (K + 10), .int (-1), .int 30, .int 50, .int 0, .ref (K + 11)])) H := hath.kept (oq _ (by omega))
  refine W.widen (k := 50) (n := 535) (Nat.le_of_ble_eq_true rfl) (Nat.le_of_ble_eq_true rfl) ?_
  have hatk : va_at D vwCl ((K + 49), .inl (cy 2, 2, .inl (fun _ => 0))) H := hat_n
  have hG : rc_G D cy ld t (a0 :: X) (K + 50) H := rc_G.close hG hat_n ht49 (rc_arrZ (by decide) (by decide))
  refine rc_putF (ci := 12) (v := .ref (K + 49)) (ty := .array (.boolean)) (C := RX12) (T := TX12) (N := 17) hx hb htl inX12 tyX12 tyX12_ok nmX12 hown hK hat_a0 rfl 2 (by decide) (htl _ mw_18) (fun _ h9 => h9) rfl hin rfl (tyX12_ok 2 (by decide)) rfl rfl (Nat.le_of_ble_eq_true rfl) dX12_init_47 (fun H j9 hat_n z9 oq => ?_)
  have hS := hS.put (k := j9) z9 oq (by show _ = _ ∨ _ ≤ _; omega)
  have hath : va_at D vwCl (K, .inr (2, [.int 0, .ref (K + 1), .ref (K + 2), .ref (K + 3), .int 0, .ref (K + 4), .ref (K + 5), .int 0, .ref (K + 6), .ref (K + 7), .ref (K + 8), .int 0, .ref (K + 9), .int 0, .ref (K + 10), .int (-1), .int 30, .int 50, .int 0, .ref (K + 11)])) H := hath.kept (oq _ (by omega))
  have hatk : va_at D vwCl ((K + 49), .inl (cy 2, 2, .inl (fun _ => 0))) H := hatk.kept (oq _ (by omega))
  have hat_a0 : va_at D vwCl (a0, .inr (12, [.ref K, .ref (K + 16), .ref (K + 49), .null, .null, .null, .null, .null, .null, .null, .null, .null, .null, .int 0, .int 0, .int 0, .int 0])) H := hat_n
  have hG : rc_G D cy ld t (a0 :: X) (K + 50) H := hG.ajar (by simp) z9 oq
  refine lv_aload_n hx hb dX12_init_50 rfl (lv_at hl 0 rfl) ?_
  refine rc_new (ci := 8) (fs := [.null, .null, .int 0]) (C := RX8) (T := TX8) (N := 3) hx hb htl inX8 tyX8 tyX8_ok hown (htl _ mw_19) (htl _ mw_20) (htl _ mw_21) hK hG hS rfl dfX8 (Nat.le_of_ble_eq_true rfl) (Nat.le_of_ble_eq_true rfl) dX12_init_51 (fun H hG hat_n oq hS => ?_)
  have hat_a0 : va_at D vwCl (a0, .inr (12, [.ref K, .ref (K + 16), .ref (K + 49), .null, .null, .null, .null, .null, .null, .null, .null, .null, .null, .int 0, .int 0, .int 0, .int 0])) H := hat_a0.kept (oq _ (by omega))
  have hath : va_at D vwCl (K, .inr (2, [.int 0, .ref (K + 1), .ref (K + 2), .ref (K + 3), .int 0, .ref (K + 4), .ref (K + 5), .int 0, .ref (K + 6), .ref (K + 7), .ref (K + 8), .int 0, .ref (K + 9), .int 0, .ref (K + 10), .int (-1), .int 30, .int 50, .int 0, .ref (K + 11)])) H := hath.kept (oq _ (by omega))
  have hatk : va_at D vwCl ((K + 49), .inl (cy 2, 2, .inl (fun _ => 0))) H := hatk.kept (oq _ (by omega))
  refine W.widen (k := 51) (n := 538) (Nat.le_of_ble_eq_true rfl) (Nat.le_of_ble_eq_true rfl) ?_
  have hG : rc_G D cy ld t ((K + 50) :: a0 :: X) (K + 51) H := hG
  have hat_K50 : va_at D vwCl ((K + 50), .inr (8, [.null, .null, .int 0])) H := hat_n
  refine lv_dup hx hb dX12_init_54 rfl ?_
  refine lv_aload_n hx hb dX12_init_55 rfl (lv_at hl 0 rfl) ?_
  refine va_get (ci := 12) (C := RX12) (T := TX12) (N := 17) hx hb htl inX12 hown hK.1 (tk_one hat_a0) 0 rfl rfl 0 (by decide) (htl _ mw_15) (fun _ h9 => h9) rfl dX12_init_56 ?_
  have hXX := kc_X8 l D cy ld t (a0 :: X) (K + 50) (K + 51) K ht50 hs51 ht0 hl_20  (fun q hq => rc_nin (by omega) (hX q (by omega)))
  refine rc_I (As := [.ref K]) (rest := [.ref (K + 50), .ref a0]) (ci := 8) (n1 := (K + 54)) ⟨hx, hb, hml, hown, hts⟩ hK hG hat_K50 hS (fun q h9 => by show _ = _ ∨ _ ≤ _; omega) hXX ⟨callB_of 1 hts (wl_in mw_91) rfl rfl rfl (htl _ mw_21) (htl _ mw_89) hd_yX8_init ⟨(Nat.le_of_ble_eq_true rfl), (Nat.le_of_ble_eq_true rfl)⟩, rfl, htl _ mw_90⟩ rfl hl.1 rfl (Nat.le_of_ble_eq_true rfl) dX12_init_59 ⟨(Nat.le_of_ble_eq_true rfl), (Nat.le_of_ble_eq_true rfl)⟩ (fun H locs hG oq hS => ?_)
  have hat_a0 : va_at D vwCl (a0, .inr (12, [.ref K, .ref (K + 16), .ref (K + 49), .null, .null, .null, .null, .null, .null, .null, .null, .null, .null, .int 0, .int 0, .int 0, .int 0])) H := hat_a0.kept (oq _ (by omega) (by omega))
  have hath : va_at D vwCl (K, .inr (2, [.int 0, .ref (K + 1), .ref (K + 2), .ref (K + 3), .int 0, .ref (K + 4), .ref (K + 5), .int 0, .ref (K + 6), .ref (K + 7), .ref (K + 8), .int 0, .ref (K + 9), .int 0, .ref (K + 10), .int (-1), .int 30, .int 50, .int 0, .ref (K + 11)])) H := hath.kept (oq _ (by omega) (by omega))
  have hatk : va_at D vwCl ((K + 49), .inl (cy 2, 2, .inl (fun _ => 0))) H := hatk.kept (oq _ (by omega) (by omega))
  refine W.widen (k := 54) (n := 588) (Nat.le_of_ble_eq_true rfl) (Nat.le_of_ble_eq_true rfl) ?_
  have hG : rc_G D cy ld t (a0 :: X) (K + 54) H := hG
  refine rc_putF (ci := 12) (v := .ref (K + 50)) (ty := .object "CradleDuel$Singing") (C := RX12) (T := TX12) (N := 17) hx hb htl inX12 tyX12 tyX12_ok nmX12 hown hK hat_a0 rfl 3 (by decide) (htl _ mw_22) (fun _ h9 => h9) rfl hin rfl (tyX12_ok 3 (by decide)) rfl rfl (Nat.le_of_ble_eq_true rfl) dX12_init_62 (fun H j9 hat_n z9 oq => ?_)
  have hS := hS.put (k := j9) z9 oq (by show _ = _ ∨ _ ≤ _; omega)
  have hath : va_at D vwCl (K, .inr (2, [.int 0, .ref (K + 1), .ref (K + 2), .ref (K + 3), .int 0, .ref (K + 4), .ref (K + 5), .int 0, .ref (K + 6), .ref (K + 7), .ref (K + 8), .int 0, .ref (K + 9), .int 0, .ref (K + 10), .int (-1), .int 30, .int 50, .int 0, .ref (K + 11)])) H := hath.kept (oq _ (by omega))
  have hatk : va_at D vwCl ((K + 49), .inl (cy 2, 2, .inl (fun _ => 0))) H := hatk.kept (oq _ (by omega))
  have hat_a0 : va_at D vwCl (a0, .inr (12, [.ref K, .ref (K + 16), .ref (K + 49), .ref (K + 50), .null, .null, .null, .null, .null, .null, .null, .null, .null, .int 0, .int 0, .int 0, .int 0])) H := hat_n
  have hG : rc_G D cy ld t (a0 :: X) (K + 54) H := hG.ajar (by simp) z9 oq
  refine lv_aload_n hx hb dX12_init_65 rfl (lv_at hl 0 rfl) ?_
  refine rc_new (ci := 1) (fs := [.int 0, .null, .null, .null, .null, .int 0, .null, .null, .null, .int 0, .int 0]) (C := RX1) (T := TX1) (N := 11) hx hb htl inX1 tyX1 tyX1_ok hown (htl _ mw_23) (htl _ mw_24) (htl _ mw_25) hK hG hS rfl dfX1 (Nat.le_of_ble_eq_true rfl) (Nat.le_of_ble_eq_true rfl) dX12_init_66 (fun H hG hat_n oq hS => ?_)
  have hat_a0 : va_at D vwCl (a0, .inr (12, [.ref K, .ref (K + 16), .ref (K + 49), .ref (K + 50), .null, .null, .null, .null, .null, .null, .null, .null, .null, .int 0, .int 0, .int 0, .int 0])) H := hat_a0.kept (oq _ (by omega))
  have hath : va_at D vwCl (K, .inr (2, [.int 0, .ref (K + 1), .ref (K + 2), .ref (K + 3), .int 0, .ref (K + 4), .ref (K + 5), .int 0, .ref (K + 6), .ref (K + 7), .ref (K + 8), .int 0, .ref (K + 9), .int 0, .ref (K + 10), .int (-1), .int 30, .int 50, .int 0, .ref (K + 11)])) H := hath.kept (oq _ (by omega))
  have hatk : va_at D vwCl ((K + 49), .inl (cy 2, 2, .inl (fun _ => 0))) H := hatk.kept (oq _ (by omega))
  refine W.widen (k := 55) (n := 599) (Nat.le_of_ble_eq_true rfl) (Nat.le_of_ble_eq_true rfl) ?_
  have hG : rc_G D cy ld t ((K + 54) :: a0 :: X) (K + 55) H := hG
  have hat_K54 : va_at D vwCl ((K + 54), .inr (1, [.int 0, .null, .null, .null, .null, .int 0, .null, .null, .null, .int 0, .int 0])) H := hat_n
  refine lv_dup hx hb dX12_init_69 rfl ?_
  refine lv_aload_n hx hb dX12_init_70 rfl (lv_at hl 0 rfl) ?_
  refine va_get (ci := 12) (C := RX12) (T := TX12) (N := 17) hx hb htl inX12 hown hK.1 (tk_one hat_a0) 0 rfl rfl 0 (by decide) (htl _ mw_15) (fun _ h9 => h9) rfl dX12_init_71 ?_
  refine lv_aload_n hx hb dX12_init_74 rfl (lv_at hl 0 rfl) ?_
  refine va_get (ci := 12) (C := RX12) (T := TX12) (N := 17) hx hb htl inX12 hown hK.1 (tk_one hat_a0) 0 rfl rfl 3 (by decide) (htl _ mw_22) (fun _ h9 => h9) rfl dX12_init_75 ?_
  have hXX := kc_X1 l D cy ld t (a0 :: X) (K + 54) (K + 55) K (K + 50) ht54 hs55 ht0 hl_20 ht50  (fun q hq => rc_nin (by omega) (hX q (by omega)))
  refine rc_I (As := [.ref K, .ref (K + 50)]) (rest := [.ref (K + 54), .ref a0]) (ci := 1) (n1 := (K + 224)) ⟨hx, hb, hml, hown, hts⟩ hK hG hat_K54 hS (fun q h9 => by show _ = _ ∨ _ ≤ _; omega) hXX ⟨callB_of 2 hts (wl_in mw_106) rfl rfl rfl (htl _ mw_25) (htl _ mw_104) hd_yX1_init ⟨(Nat.le_of_ble_eq_true rfl), (Nat.le_of_ble_eq_true rfl)⟩, rfl, htl _ mw_105⟩ rfl hl.1 rfl (Nat.le_of_ble_eq_true rfl) dX12_init_78 ⟨(Nat.le_of_ble_eq_true rfl), (Nat.le_of_ble_eq_true rfl)⟩ (fun H locs hG oq hS => ?_)
  have hat_a0 : va_at D vwCl (a0, .inr (12, [.ref K, .ref (K + 16), .ref (K + 49), .ref (K + 50), .null, .null, .null, .null, .null, .null, .null, .null, .null, .int 0, .int 0, .int 0, .int 0])) H := hat_a0.kept (oq _ (by omega) (by omega))
  have hath : va_at D vwCl (K, .inr (2, [.int 0, .ref (K + 1), .ref (K + 2), .ref (K + 3), .int 0, .ref (K + 4), .ref (K + 5), .int 0, .ref (K + 6), .ref (K + 7), .ref (K + 8), .int 0, .ref (K + 9), .int 0, .ref (K + 10), .int (-1), .int 30, .int 50, .int 0, .ref (K + 11)])) H := hath.kept (oq _ (by omega) (by omega))
  have hatk : va_at D vwCl ((K + 49), .inl (cy 2, 2, .inl (fun _ => 0))) H := hatk.kept (oq _ (by omega) (by omega))
  refine W.widen (k := 224) (n := 1884) (Nat.le_of_ble_eq_true rfl) (Nat.le_of_ble_eq_true rfl) ?_
  have hG : rc_G D cy ld t (a0 :: X) (K + 224) H := hG
  refine rc_putF (ci := 12) (v := .ref (K + 54)) (ty := .object "CradleDuel$Deeds") (C := RX12) (T := TX12) (N := 17) hx hb htl inX12 tyX12 tyX12_ok nmX12 hown hK hat_a0 rfl 4 (by decide) (htl _ mw_26) (fun _ h9 => h9) rfl hin rfl (tyX12_ok 4 (by decide)) rfl rfl (Nat.le_of_ble_eq_true rfl) dX12_init_81 (fun H j9 hat_n z9 oq => ?_)
  have hS := hS.put (k := j9) z9 oq (by show _ = _ ∨ _ ≤ _; omega)
  have hath : va_at D vwCl (K, .inr (2, [.int 0, .ref (K + 1), .ref (K + 2), .ref (K + 3), .int 0, .ref (K + 4), .ref (K + 5), .int 0, .ref (K + 6), .ref (K + 7), .ref (K + 8), .int 0, .ref (K + 9), .int 0, .ref (K + 10), .int (-1), .int 30, .int 50, .int 0, .ref (K + 11)])) H := hath.kept (oq _ (by omega))
  have hatk : va_at D vwCl ((K + 49), .inl (cy 2, 2, .inl (fun _ => 0))) H := hatk.kept (oq _ (by omega))
  have hat_a0 : va_at D vwCl (a0, .inr (12, [.ref K, .ref (K + 16), .ref (K + 49), .ref (K + 50), .ref (K + 54), .null, .null, .null, .null, .null, .null, .null, .null, .int 0, .int 0, .int 0, .int 0])) H := hat_n
  have hG : rc_G D cy ld t (a0 :: X) (K + 224) H := hG.ajar (by simp) z9 oq
  refine lv_aload_n hx hb dX12_init_84 rfl (lv_at hl 0 rfl) ?_
  refine rc_new (ci := 4) (fs := [.int 0, .null, .null, .null, .int 0, .int 0]) (C := RX4) (T := TX4) (N := 6) hx hb htl inX4 tyX4 tyX4_ok hown (htl _ mw_27) (htl _ mw_28) (htl _ mw_29) hK hG hS rfl dfX4 (Nat.le_of_ble_eq_true rfl) (Nat.le_of_ble_eq_true rfl) dX12_init_85 (fun H hG hat_n oq hS => ?_)
  have hat_a0 : va_at D vwCl (a0, .inr (12, [.ref K, .ref (K + 16), .ref (K + 49), .ref (K + 50), .ref (K + 54), .null, .null, .null, .null, .null, .null, .null, .null, .int 0, .int 0, .int 0, .int 0])) H := hat_a0.kept (oq _ (by omega))
  have hath : va_at D vwCl (K, .inr (2, [.int 0, .ref (K + 1), .ref (K + 2), .ref (K + 3), .int 0, .ref (K + 4), .ref (K + 5), .int 0, .ref (K + 6), .ref (K + 7), .ref (K + 8), .int 0, .ref (K + 9), .int 0, .ref (K + 10), .int (-1), .int 30, .int 50, .int 0, .ref (K + 11)])) H := hath.kept (oq _ (by omega))
  have hatk : va_at D vwCl ((K + 49), .inl (cy 2, 2, .inl (fun _ => 0))) H := hatk.kept (oq _ (by omega))
  refine W.widen (k := 225) (n := 1890) (Nat.le_of_ble_eq_true rfl) (Nat.le_of_ble_eq_true rfl) ?_
  have hG : rc_G D cy ld t ((K + 224) :: a0 :: X) (K + 225) H := hG
  have hat_K224 : va_at D vwCl ((K + 224), .inr (4, [.int 0, .null, .null, .null, .int 0, .int 0])) H := hat_n
  refine lv_dup hx hb dX12_init_88 rfl ?_
  refine lv_aload_n hx hb dX12_init_89 rfl (lv_at hl 0 rfl) ?_
  refine va_get (ci := 12) (C := RX12) (T := TX12) (N := 17) hx hb htl inX12 hown hK.1 (tk_one hat_a0) 0 rfl rfl 0 (by decide) (htl _ mw_15) (fun _ h9 => h9) rfl dX12_init_90 ?_
  refine lv_aload_n hx hb dX12_init_93 rfl (lv_at hl 0 rfl) ?_
  refine va_get (ci := 12) (C := RX12) (T := TX12) (N := 17) hx hb htl inX12 hown hK.1 (tk_one hat_a0) 0 rfl rfl 4 (by decide) (htl _ mw_26) (fun _ h9 => h9) rfl dX12_init_94 ?_
  refine lv_aload_n hx hb dX12_init_97 rfl (lv_at hl 0 rfl) ?_
  refine va_get (ci := 12) (C := RX12) (T := TX12) (N := 17) hx hb htl inX12 hown hK.1 (tk_one hat_a0) 0 rfl rfl 3 (by decide) (htl _ mw_22) (fun _ h9 => h9) rfl dX12_init_98 ?_
  obtain ⟨fs9, hv9, hvs⟩ := hG.obj (ci := 8) ht50 (by decide) (by omega) (rc_nin (by omega) ( rc_nin (by omega) (hX _ (by omega))))
  obtain ⟨v9, hvk, hV⟩ := hvs 0 (6, 12, 0, 0) rfl
  obtain ⟨b9, rfl, hb9⟩ := hV
  have hb9 : t b9 = (12, 0, 0) := hb9
  refine va_get (ci := 8) (C := RX8) (T := TX8) (N := 3) hx hb htl inX8 hown hK.1 (tk_one hv9) 0 rfl rfl 0 (by decide) (htl _ mw_30) (fun _ h9 => h9) hvk dX12_init_101 ?_
  have hXX := kc_X4 l D cy ld t (a0 :: X) (K + 224) (K + 225) K (K + 54) b9 ht224 ht0 hl_20 ht54 hb9  (fun q hq => rc_nin (by omega) (hX q (by omega)))
  refine rc_I (As := [.ref K, .ref (K + 54), .ref b9]) (rest := [.ref (K + 224), .ref a0]) (ci := 4) (n1 := (K + 225)) ⟨hx, hb, hml, hown, hts⟩ hK hG hat_K224 hS (fun q h9 => by show _ = _ ∨ _ ≤ _; omega) hXX ⟨callB_of 3 hts (wl_in mw_119) rfl rfl rfl (htl _ mw_29) (htl _ mw_117) hd_yX4_init ⟨(Nat.le_of_ble_eq_true rfl), (Nat.le_of_ble_eq_true rfl)⟩, rfl, htl _ mw_118⟩ rfl hl.1 rfl (Nat.le_of_ble_eq_true rfl) dX12_init_104 ⟨(Nat.le_of_ble_eq_true rfl), (Nat.le_of_ble_eq_true rfl)⟩ (fun H locs hG oq hS => ?_)
  have hat_a0 : va_at D vwCl (a0, .inr (12, [.ref K, .ref (K + 16), .ref (K + 49), .ref (K + 50), .ref (K + 54), .null, .null, .null, .null, .null, .null, .null, .null, .int 0, .int 0, .int 0, .int 0])) H := hat_a0.kept (oq _ (by omega) (by omega))
  have hath : va_at D vwCl (K, .inr (2, [.int 0, .ref (K + 1), .ref (K + 2), .ref (K + 3), .int 0, .ref (K + 4), .ref (K + 5), .int 0, .ref (K + 6), .ref (K + 7), .ref (K + 8), .int 0, .ref (K + 9), .int 0, .ref (K + 10), .int (-1), .int 30, .int 50, .int 0, .ref (K + 11)])) H := hath.kept (oq _ (by omega) (by omega))
  have hatk : va_at D vwCl ((K + 49), .inl (cy 2, 2, .inl (fun _ => 0))) H := hatk.kept (oq _ (by omega) (by omega))
  refine W.widen (k := 225) (n := 1890) (Nat.le_of_ble_eq_true rfl) (Nat.le_of_ble_eq_true rfl) ?_
  have hG : rc_G D cy ld t (a0 :: X) (K + 225) H := hG
  refine rc_putF (ci := 12) (v := .ref (K + 224)) (ty := .object "CradleDuel$OrderRun") (C := RX12) (T := TX12) (N := 17) hx hb htl inX12 tyX12 tyX12_ok nmX12 hown hK hat_a0 rfl 5 (by decide) (htl _ mw_31) (fun _ h9 => h9) rfl hin rfl (tyX12_ok 5 (by decide)) rfl rfl (Nat.le_of_ble_eq_true rfl) dX12_init_107 (fun H j9 hat_n z9 oq => ?_)
  have hS := hS.put (k := j9) z9 oq (by show _ = _ ∨ _ ≤ _; omega)
  have hath : va_at D vwCl (K, .inr (2, [.int 0, .ref (K + 1), .ref (K + 2), .ref (K + 3), .int 0, .ref (K + 4), .ref (K + 5), .int 0, .ref (K + 6), .ref (K + 7), .ref (K + 8), .int 0, .ref (K + 9), .int 0, .ref (K + 10), .int (-1), .int 30, .int 50, .int 0, .ref (K + 11)])) H := hath.kept (oq _ (by omega))
  have hatk : va_at D vwCl ((K + 49), .inl (cy 2, 2, .inl (fun _ => 0))) H := hatk.kept (oq _ (by omega))
  have hat_a0 : va_at D vwCl (a0, .inr (12, [.ref K, .ref (K + 16), .ref (K + 49), .ref (K + 50), .ref (K + 54), .ref (K + 224), .null, .null, .null, .null, .null, .null, .null, .int 0, .int 0, .int 0, .int 0])) H := hat_n
  have hG : rc_G D cy ld t (a0 :: X) (K + 225) H := hG.ajar (by simp) z9 oq
  refine lv_aload_n hx hb dX12_init_110 rfl (lv_at hl 0 rfl) ?_
  refine lv_sipush (v := 400) hx hb dX12_init_111 (by decide) ?_
  refine rc_newa hx hb (htl _ mw_32) rfl hK hG hS 0 rfl (fun _ h => h) (a0 := (400, .inl (fun _ => 0))) (fun _ => rfl) (by decide) (by decide) (Nat.le_of_ble_eq_true rfl) (Nat.le_of_ble_eq_true rfl) (Nat.le_of_ble_eq_true rfl) dX12_init_114 (fun H hG hat_n oq hS => ?_)
  have hat_a0 : va_at D vwCl (a0, .inr (12, [.ref K, .ref (K + 16), .ref (K + 49), .ref (K + 50), .ref (K + 54), .ref (K + 224), .null, .null, .null, .null, .null, .null, .null, .int 0, .int 0, .int 0, .int 0])) H := hat_a0.kept (oq _ (by omega))
  have hath : va_at D vwCl (K, .inr (2, [.int 0, .ref (K + 1), .ref (K + 2), .ref (K + 3), .int 0, .ref (K + 4), .ref (K + 5), .int 0, .ref (K + 6), .ref (K + 7), .ref (K + 8), .int 0, .ref (K + 9), .int 0, .ref (K + 10), .int (-1), .int 30, .int 50, .int 0, .ref (K + 11)])) H := hath.kept (oq _ (by omega))
  have hatk : va_at D vwCl ((K + 49), .inl (cy 2, 2, .inl (fun _ => 0))) H := hatk.kept (oq _ (by omega))
  refine W.widen (k := 226) (n := 2290) (Nat.le_of_ble_eq_true rfl) (Nat.le_of_ble_eq_true rfl) ?_
  have hG : rc_G D cy ld t (a0 :: X) (K + 226) H := rc_G.close hG hat_n ht225 (rc_arr (by decide) (by decide) (fun j hj => trivial))
  refine rc_putF (ci := 12) (v := .ref (K + 225)) (ty := .array (.int)) (C := RX12) (T := TX12) (N := 17) hx hb htl inX12 tyX12 tyX12_ok nmX12 hown hK hat_a0 rfl 11 (by decide) (htl _ mw_33) (fun _ h9 => h9) rfl hin rfl (tyX12_ok 11 (by decide)) rfl rfl (Nat.le_of_ble_eq_true rfl) dX12_init_116 (fun H j9 hat_n z9 oq => ?_)
  have hS := hS.put (k := j9) z9 oq (by show _ = _ ∨ _ ≤ _; omega)
  have hath : va_at D vwCl (K, .inr (2, [.int 0, .ref (K + 1), .ref (K + 2), .ref (K + 3), .int 0, .ref (K + 4), .ref (K + 5), .int 0, .ref (K + 6), .ref (K + 7), .ref (K + 8), .int 0, .ref (K + 9), .int 0, .ref (K + 10), .int (-1), .int 30, .int 50, .int 0, .ref (K + 11)])) H := hath.kept (oq _ (by omega))
  have hatk : va_at D vwCl ((K + 49), .inl (cy 2, 2, .inl (fun _ => 0))) H := hatk.kept (oq _ (by omega))
  have hat_a0 : va_at D vwCl (a0, .inr (12, [.ref K, .ref (K + 16), .ref (K + 49), .ref (K + 50), .ref (K + 54), .ref (K + 224), .null, .null, .null, .null, .null, .ref (K + 225), .null, .int 0, .int 0, .int 0, .int 0])) H := hat_n
  have hG : rc_G D cy ld t (a0 :: X) (K + 226) H := hG.ajar (by simp) z9 oq
  refine lv_aload_n hx hb dX12_init_119 rfl (lv_at hl 0 rfl) ?_
  refine rc_new (ci := 6) (fs := [.null, .null, .int 0, .int 0, .int 0, .int 0, .int 0, .int 0, .int 0, .int 0, .int 0]) (C := RX6) (T := TX6) (N := 11) hx hb htl inX6 tyX6 tyX6_ok hown (htl _ mw_34) (htl _ mw_35) (htl _ mw_36) hK hG hS rfl dfX6 (Nat.le_of_ble_eq_true rfl) (Nat.le_of_ble_eq_true rfl) dX12_init_120 (fun H hG hat_n oq hS => ?_)
  have hat_a0 : va_at D vwCl (a0, .inr (12, [.ref K, .ref (K + 16), .ref (K + 49), .ref (K + 50), .ref (K + 54), .ref (K + 224), .null, .null, .null, .null, .null, .ref (K + 225), .null, .int 0, .int 0, .int 0, .int 0])) H := hat_a0.kept (oq _ (by omega))
  have hath : va_at D vwCl (K, .inr (2, [.int 0, .ref (K + 1), .ref (K + 2), .ref (K + 3), .int 0, .ref (K + 4), .ref (K + 5), .int 0, .ref (K + 6), .ref (K + 7), .ref (K + 8), .int 0, .ref (K + 9), .int 0, .ref (K + 10), .int (-1), .int 30, .int 50, .int 0, .ref (K + 11)])) H := hath.kept (oq _ (by omega))
  have hatk : va_at D vwCl ((K + 49), .inl (cy 2, 2, .inl (fun _ => 0))) H := hatk.kept (oq _ (by omega))
  refine W.widen (k := 227) (n := 2301) (Nat.le_of_ble_eq_true rfl) (Nat.le_of_ble_eq_true rfl) ?_
  have hG : rc_G D cy ld t ((K + 226) :: a0 :: X) (K + 227) H := hG
  have hat_K226 : va_at D vwCl ((K + 226), .inr (6, [.null, .null, .int 0, .int 0, .int 0, .int 0, .int 0, .int 0, .int 0, .int 0, .int 0])) H := hat_n
  refine lv_dup hx hb dX12_init_123 rfl ?_
  refine lv_aload_n hx hb dX12_init_124 rfl (lv_at hl 0 rfl) ?_
  refine va_get (ci := 12) (C := RX12) (T := TX12) (N := 17) hx hb htl inX12 hown hK.1 (tk_one hat_a0) 0 rfl rfl 11 (by decide) (htl _ mw_33) (fun _ h9 => h9) rfl dX12_init_125 ?_
  have hXX := kc_X6 l D cy ld t (a0 :: X) (K + 226) (K + 227) (K + 225) ht226 hs227 ht225  (fun q hq => rc_nin (by omega) (hX q (by omega)))
  refine rc_I (As := [.ref (K + 225)]) (rest := [.ref (K + 226), .ref a0]) (ci := 6) (n1 := (K + 234)) ⟨hx, hb, hml, hown, hts⟩ hK hG hat_K226 hS (fun q h9 => by show _ = _ ∨ _ ≤ _; omega) hXX ⟨callB_of 1 hts (wl_in mw_127) rfl rfl rfl (htl _ mw_36) (htl _ mw_125) hd_yX6_init ⟨(Nat.le_of_ble_eq_true rfl), (Nat.le_of_ble_eq_true rfl)⟩, rfl, htl _ mw_126⟩ rfl hl.1 rfl (Nat.le_of_ble_eq_true rfl) dX12_init_128 ⟨(Nat.le_of_ble_eq_true rfl), (Nat.le_of_ble_eq_true rfl)⟩ (fun H locs hG oq hS => ?_)
  have hat_a0 : va_at D vwCl (a0, .inr (12, [.ref K, .ref (K + 16), .ref (K + 49), .ref (K + 50), .ref (K + 54), .ref (K + 224), .null, .null, .null, .null, .null, .ref (K + 225), .null, .int 0, .int 0, .int 0, .int 0])) H := hat_a0.kept (oq _ (by omega) (by omega))
  have hath : va_at D vwCl (K, .inr (2, [.int 0, .ref (K + 1), .ref (K + 2), .ref (K + 3), .int 0, .ref (K + 4), .ref (K + 5), .int 0, .ref (K + 6), .ref (K + 7), .ref (K + 8), .int 0, .ref (K + 9), .int 0, .ref (K + 10), .int (-1), .int 30, .int 50, .int 0, .ref (K + 11)])) H := hath.kept (oq _ (by omega) (by omega))
  have hatk : va_at D vwCl ((K + 49), .inl (cy 2, 2, .inl (fun _ => 0))) H := hatk.kept (oq _ (by omega) (by omega))
  refine W.widen (k := 234) (n := 3407) (Nat.le_of_ble_eq_true rfl) (Nat.le_of_ble_eq_true rfl) ?_
  have hG : rc_G D cy ld t (a0 :: X) (K + 234) H := hG
  refine rc_putF (ci := 12) (v := .ref (K + 226)) (ty := .object "CradleDuel$Reader") (C := RX12) (T := TX12) (N := 17) hx hb htl inX12 tyX12 tyX12_ok nmX12 hown hK hat_a0 rfl 6 (by decide) (htl _ mw_37) (fun _ h9 => h9) rfl hin rfl (tyX12_ok 6 (by decide)) rfl rfl (Nat.le_of_ble_eq_true rfl) dX12_init_131 (fun H j9 hat_n z9 oq => ?_)
  have hS := hS.put (k := j9) z9 oq (by show _ = _ ∨ _ ≤ _; omega)
  have hath : va_at D vwCl (K, .inr (2, [.int 0, .ref (K + 1), .ref (K + 2), .ref (K + 3), .int 0, .ref (K + 4), .ref (K + 5), .int 0, .ref (K + 6), .ref (K + 7), .ref (K + 8), .int 0, .ref (K + 9), .int 0, .ref (K + 10), .int (-1), .int 30, .int 50, .int 0, .ref (K + 11)])) H := hath.kept (oq _ (by omega))
  have hatk : va_at D vwCl ((K + 49), .inl (cy 2, 2, .inl (fun _ => 0))) H := hatk.kept (oq _ (by omega))
  have hat_a0 : va_at D vwCl (a0, .inr (12, [.ref K, .ref (K + 16), .ref (K + 49), .ref (K + 50), .ref (K + 54), .ref (K + 224), .ref (K + 226), .null, .null, .null, .null, .ref (K + 225), .null, .int 0, .int 0, .int 0, .int 0])) H := hat_n
  have hG : rc_G D cy ld t (a0 :: X) (K + 234) H := hG.ajar (by simp) z9 oq
  refine lv_aload_n hx hb dX12_init_134 rfl (lv_at hl 0 rfl) ?_
  refine rc_new (ci := 5) (fs := [.null, .null, .null, .int 0, .int 0, .null, .null, .null, .null, .int 0, .int 0]) (C := RX5) (T := TX5) (N := 11) hx hb htl inX5 tyX5 tyX5_ok hown (htl _ mw_38) (htl _ mw_39) (htl _ mw_40) hK hG hS rfl dfX5 (Nat.le_of_ble_eq_true rfl) (Nat.le_of_ble_eq_true rfl) dX12_init_135 (fun H hG hat_n oq hS => ?_)
  have hat_a0 : va_at D vwCl (a0, .inr (12, [.ref K, .ref (K + 16), .ref (K + 49), .ref (K + 50), .ref (K + 54), .ref (K + 224), .ref (K + 226), .null, .null, .null, .null, .ref (K + 225), .null, .int 0, .int 0, .int 0, .int 0])) H := hat_a0.kept (oq _ (by omega))
  have hath : va_at D vwCl (K, .inr (2, [.int 0, .ref (K + 1), .ref (K + 2), .ref (K + 3), .int 0, .ref (K + 4), .ref (K + 5), .int 0, .ref (K + 6), .ref (K + 7), .ref (K + 8), .int 0, .ref (K + 9), .int 0, .ref (K + 10), .int (-1), .int 30, .int 50, .int 0, .ref (K + 11)])) H := hath.kept (oq _ (by omega))
  have hatk : va_at D vwCl ((K + 49), .inl (cy 2, 2, .inl (fun _ => 0))) H := hatk.kept (oq _ (by omega))
  refine W.widen (k := 235) (n := 3418) (Nat.le_of_ble_eq_true rfl) (Nat.le_of_ble_eq_true rfl) ?_
  have hG : rc_G D cy ld t ((K + 234) :: a0 :: X) (K + 235) H := hG
  have hat_K234 : va_at D vwCl ((K + 234), .inr (5, [.null, .null, .null, .int 0, .int 0, .null, .null, .null, .null, .int 0, .int 0])) H := hat_n
  refine lv_dup hx hb dX12_init_138 rfl ?_
  refine lv_aload_n hx hb dX12_init_139 rfl (lv_at hl 0 rfl) ?_
  refine va_get (ci := 12) (C := RX12) (T := TX12) (N := 17) hx hb htl inX12 hown hK.1 (tk_one hat_a0) 0 rfl rfl 0 (by decide) (htl _ mw_15) (fun _ h9 => h9) rfl dX12_init_140 ?_
  refine lv_aload_n hx hb dX12_init_143 rfl (lv_at hl 0 rfl) ?_
  refine va_get (ci := 12) (C := RX12) (T := TX12) (N := 17) hx hb htl inX12 hown hK.1 (tk_one hat_a0) 0 rfl rfl 3 (by decide) (htl _ mw_22) (fun _ h9 => h9) rfl dX12_init_144 ?_
  have hXX := kc_X5 l D cy ld t (a0 :: X) (K + 234) (K + 235) K (K + 50) ht234 hs235 ht0 hl_20 ht50  (fun q hq => rc_nin (by omega) (hX q (by omega)))
  refine rc_I (As := [.ref K, .ref (K + 50)]) (rest := [.ref (K + 234), .ref a0]) (ci := 5) (n1 := (K + 277)) ⟨hx, hb, hml, hown, hts⟩ hK hG hat_K234 hS (fun q h9 => by show _ = _ ∨ _ ≤ _; omega) hXX ⟨callB_of 2 hts (wl_in mw_146) rfl rfl rfl (htl _ mw_40) (htl _ mw_144) hd_yX5_init ⟨(Nat.le_of_ble_eq_true rfl), (Nat.le_of_ble_eq_true rfl)⟩, rfl, htl _ mw_145⟩ rfl hl.1 rfl (Nat.le_of_ble_eq_true rfl) dX12_init_147 ⟨(Nat.le_of_ble_eq_true rfl), (Nat.le_of_ble_eq_true rfl)⟩ (fun H locs hG oq hS => ?_)
  have hat_a0 : va_at D vwCl (a0, .inr (12, [.ref K, .ref (K + 16), .ref (K + 49), .ref (K + 50), .ref (K + 54), .ref (K + 224), .ref (K + 226), .null, .null, .null, .null, .ref (K + 225), .null, .int 0, .int 0, .int 0, .int 0])) H := hat_a0.kept (oq _ (by omega) (by omega))
  have hath : va_at D vwCl (K, .inr (2, [.int 0, .ref (K + 1), .ref (K + 2), .ref (K + 3), .int 0, .ref (K + 4), .ref (K + 5), .int 0, .ref (K + 6), .ref (K + 7), .ref (K + 8), .int 0, .ref (K + 9), .int 0, .ref (K + 10), .int (-1), .int 30, .int 50, .int 0, .ref (K + 11)])) H := hath.kept (oq _ (by omega) (by omega))
  have hatk : va_at D vwCl ((K + 49), .inl (cy 2, 2, .inl (fun _ => 0))) H := hatk.kept (oq _ (by omega) (by omega))
  refine W.widen (k := 277) (n := 3733) (Nat.le_of_ble_eq_true rfl) (Nat.le_of_ble_eq_true rfl) ?_
  have hG : rc_G D cy ld t (a0 :: X) (K + 277) H := hG
  refine rc_putF (ci := 12) (v := .ref (K + 234)) (ty := .object "CradleDuel$Paper") (C := RX12) (T := TX12) (N := 17) hx hb htl inX12 tyX12 tyX12_ok nmX12 hown hK hat_a0 rfl 7 (by decide) (htl _ mw_41) (fun _ h9 => h9) rfl hin rfl (tyX12_ok 7 (by decide)) rfl rfl (Nat.le_of_ble_eq_true rfl) dX12_init_150 (fun H j9 hat_n z9 oq => ?_)
  have hS := hS.put (k := j9) z9 oq (by show _ = _ ∨ _ ≤ _; omega)
  have hath : va_at D vwCl (K, .inr (2, [.int 0, .ref (K + 1), .ref (K + 2), .ref (K + 3), .int 0, .ref (K + 4), .ref (K + 5), .int 0, .ref (K + 6), .ref (K + 7), .ref (K + 8), .int 0, .ref (K + 9), .int 0, .ref (K + 10), .int (-1), .int 30, .int 50, .int 0, .ref (K + 11)])) H := hath.kept (oq _ (by omega))
  have hatk : va_at D vwCl ((K + 49), .inl (cy 2, 2, .inl (fun _ => 0))) H := hatk.kept (oq _ (by omega))
  have hat_a0 : va_at D vwCl (a0, .inr (12, [.ref K, .ref (K + 16), .ref (K + 49), .ref (K + 50), .ref (K + 54), .ref (K + 224), .ref (K + 226), .ref (K + 234), .null, .null, .null, .ref (K + 225), .null, .int 0, .int 0, .int 0, .int 0])) H := hat_n
  have hG : rc_G D cy ld t (a0 :: X) (K + 277) H := hG.ajar (by simp) z9 oq
  refine lv_aload_n hx hb dX12_init_153 rfl (lv_at hl 0 rfl) ?_
  refine rc_new (ci := 0) (fs := [.null, .null, .int 0, .null, .null, .null, .int 0]) (C := RX0) (T := TX0) (N := 7) hx hb htl inX0 tyX0 tyX0_ok hown (htl _ mw_42) (htl _ mw_43) (htl _ mw_44) hK hG hS rfl dfX0 (Nat.le_of_ble_eq_true rfl) (Nat.le_of_ble_eq_true rfl) dX12_init_154 (fun H hG hat_n oq hS => ?_)
  have hat_a0 : va_at D vwCl (a0, .inr (12, [.ref K, .ref (K + 16), .ref (K + 49), .ref (K + 50), .ref (K + 54), .ref (K + 224), .ref (K + 226), .ref (K + 234), .null, .null, .null, .ref (K + 225), .null, .int 0, .int 0, .int 0, .int 0])) H := hat_a0.kept (oq _ (by omega))
  have hath : va_at D vwCl (K, .inr (2, [.int 0, .ref (K + 1), .ref (K + 2), .ref (K + 3), .int 0, .ref (K + 4), .ref (K + 5), .int 0, .ref (K + 6), .ref (K + 7), .ref (K + 8), .int 0, .ref (K + 9), .int 0, .ref (K + 10), .int (-1), .int 30, .int 50, .int 0, .ref (K + 11)])) H := hath.kept (oq _ (by omega))
  have hatk : va_at D vwCl ((K + 49), .inl (cy 2, 2, .inl (fun _ => 0))) H := hatk.kept (oq _ (by omega))
  refine W.widen (k := 278) (n := 3740) (Nat.le_of_ble_eq_true rfl) (Nat.le_of_ble_eq_true rfl) ?_
  have hG : rc_G D cy ld t ((K + 277) :: a0 :: X) (K + 278) H := hG
  have hat_K277 : va_at D vwCl ((K + 277), .inr (0, [.null, .null, .int 0, .null, .null, .null, .int 0])) H := hat_n
  refine lv_dup hx hb dX12_init_157 rfl ?_
  refine lv_aload_n hx hb dX12_init_158 rfl (lv_at hl 0 rfl) ?_
  refine va_get (ci := 12) (C := RX12) (T := TX12) (N := 17) hx hb htl inX12 hown hK.1 (tk_one hat_a0) 0 rfl rfl 0 (by decide) (htl _ mw_15) (fun _ h9 => h9) rfl dX12_init_159 ?_
  refine lv_aload_n hx hb dX12_init_162 rfl (lv_at hl 0 rfl) ?_
  refine va_get (ci := 12) (C := RX12) (T := TX12) (N := 17) hx hb htl inX12 hown hK.1 (tk_one hat_a0) 0 rfl rfl 3 (by decide) (htl _ mw_22) (fun _ h9 => h9) rfl dX12_init_163 ?_
  have hXX := kc_X0 l D cy ld t (a0 :: X) (K + 277) (K + 278) K (K + 50) ht277 hs278 ht0 hl_20 ht50  (fun q hq => rc_nin (by omega) (hX q (by omega)))
  refine rc_I (As := [.ref K, .ref (K + 50)]) (rest := [.ref (K + 277), .ref a0]) (ci := 0) (n1 := (K + 285)) ⟨hx, hb, hml, hown, hts⟩ hK hG hat_K277 hS (fun q h9 => by show _ = _ ∨ _ ≤ _; omega) hXX ⟨callB_of 2 hts (wl_in mw_160) rfl rfl rfl (htl _ mw_44) (htl _ mw_158) hd_yX0_init ⟨(Nat.le_of_ble_eq_true rfl), (Nat.le_of_ble_eq_true rfl)⟩, rfl, htl _ mw_159⟩ rfl hl.1 rfl (Nat.le_of_ble_eq_true rfl) dX12_init_166 ⟨(Nat.le_of_ble_eq_true rfl), (Nat.le_of_ble_eq_true rfl)⟩ (fun H locs hG oq hS => ?_)
  have hat_a0 : va_at D vwCl (a0, .inr (12, [.ref K, .ref (K + 16), .ref (K + 49), .ref (K + 50), .ref (K + 54), .ref (K + 224), .ref (K + 226), .ref (K + 234), .null, .null, .null, .ref (K + 225), .null, .int 0, .int 0, .int 0, .int 0])) H := hat_a0.kept (oq _ (by omega) (by omega))
  have hath : va_at D vwCl (K, .inr (2, [.int 0, .ref (K + 1), .ref (K + 2), .ref (K + 3), .int 0, .ref (K + 4), .ref (K + 5), .int 0, .ref (K + 6), .ref (K + 7), .ref (K + 8), .int 0, .ref (K + 9), .int 0, .ref (K + 10), .int (-1), .int 30, .int 50, .int 0, .ref (K + 11)])) H := hath.kept (oq _ (by omega) (by omega))
  have hatk : va_at D vwCl ((K + 49), .inl (cy 2, 2, .inl (fun _ => 0))) H := hatk.kept (oq _ (by omega) (by omega))
  refine W.widen (k := 285) (n := 3795) (Nat.le_of_ble_eq_true rfl) (Nat.le_of_ble_eq_true rfl) ?_
  have hG : rc_G D cy ld t (a0 :: X) (K + 285) H := hG
  refine rc_putF (ci := 12) (v := .ref (K + 277)) (ty := .object "CradleDuel$Decade") (C := RX12) (T := TX12) (N := 17) hx hb htl inX12 tyX12 tyX12_ok nmX12 hown hK hat_a0 rfl 8 (by decide) (htl _ mw_45) (fun _ h9 => h9) rfl hin rfl (tyX12_ok 8 (by decide)) rfl rfl (Nat.le_of_ble_eq_true rfl) dX12_init_169 (fun H j9 hat_n z9 oq => ?_)
  have hS := hS.put (k := j9) z9 oq (by show _ = _ ∨ _ ≤ _; omega)
  have hath : va_at D vwCl (K, .inr (2, [.int 0, .ref (K + 1), .ref (K + 2), .ref (K + 3), .int 0, .ref (K + 4), .ref (K + 5), .int 0, .ref (K + 6), .ref (K + 7), .ref (K + 8), .int 0, .ref (K + 9), .int 0, .ref (K + 10), .int (-1), .int 30, .int 50, .int 0, .ref (K + 11)])) H := hath.kept (oq _ (by omega))
  have hatk : va_at D vwCl ((K + 49), .inl (cy 2, 2, .inl (fun _ => 0))) H := hatk.kept (oq _ (by omega))
  have hat_a0 : va_at D vwCl (a0, .inr (12, [.ref K, .ref (K + 16), .ref (K + 49), .ref (K + 50), .ref (K + 54), .ref (K + 224), .ref (K + 226), .ref (K + 234), .ref (K + 277), .null, .null, .ref (K + 225), .null, .int 0, .int 0, .int 0, .int 0])) H := hat_n
  have hG : rc_G D cy ld t (a0 :: X) (K + 285) H := hG.ajar (by simp) z9 oq
  refine lv_aload_n hx hb dX12_init_172 rfl (lv_at hl 0 rfl) ?_
  refine rc_new (ci := 3) (fs := [.null, .null, .null, .int 0, .int 0]) (C := RX3) (T := TX3) (N := 5) hx hb htl inX3 tyX3 tyX3_ok hown (htl _ mw_46) (htl _ mw_47) (htl _ mw_48) hK hG hS rfl dfX3 (Nat.le_of_ble_eq_true rfl) (Nat.le_of_ble_eq_true rfl) dX12_init_173 (fun H hG hat_n oq hS => ?_)
  have hat_a0 : va_at D vwCl (a0, .inr (12, [.ref K, .ref (K + 16), .ref (K + 49), .ref (K + 50), .ref (K + 54), .ref (K + 224), .ref (K + 226), .ref (K + 234), .ref (K + 277), .null, .null, .ref (K + 225), .null, .int 0, .int 0, .int 0, .int 0])) H := hat_a0.kept (oq _ (by omega))
  have hath : va_at D vwCl (K, .inr (2, [.int 0, .ref (K + 1), .ref (K + 2), .ref (K + 3), .int 0, .ref (K + 4), .ref (K + 5), .int 0, .ref (K + 6), .ref (K + 7), .ref (K + 8), .int 0, .ref (K + 9), .int 0, .ref (K + 10), .int (-1), .int 30, .int 50, .int 0, .ref (K + 11)])) H := hath.kept (oq _ (by omega))
  have hatk : va_at D vwCl ((K + 49), .inl (cy 2, 2, .inl (fun _ => 0))) H := hatk.kept (oq _ (by omega))
  refine W.widen (k := 286) (n := 3800) (Nat.le_of_ble_eq_true rfl) (Nat.le_of_ble_eq_true rfl) ?_
  have hG : rc_G D cy ld t ((K + 285) :: a0 :: X) (K + 286) H := hG
  have hat_K285 : va_at D vwCl ((K + 285), .inr (3, [.null, .null, .null, .int 0, .int 0])) H := hat_n
  refine lv_dup hx hb dX12_init_176 rfl ?_
  refine lv_aload_n hx hb dX12_init_177 rfl (lv_at hl 0 rfl) ?_
  refine va_get (ci := 12) (C := RX12) (T := TX12) (N := 17) hx hb htl inX12 hown hK.1 (tk_one hat_a0) 0 rfl rfl 0 (by decide) (htl _ mw_15) (fun _ h9 => h9) rfl dX12_init_178 ?_
  have hXX := kc_X3 l D cy ld t (a0 :: X) (K + 285) (K + 286) K ht285 hs286 ht0 hl_20  (fun q hq => rc_nin (by omega) (hX q (by omega)))
  refine rc_I (As := [.ref K]) (rest := [.ref (K + 285), .ref a0]) (ci := 3) (n1 := (K + 288)) ⟨hx, hb, hml, hown, hts⟩ hK hG hat_K285 hS (fun q h9 => by show _ = _ ∨ _ ≤ _; omega) hXX ⟨callB_of 1 hts (wl_in mw_171) rfl rfl rfl (htl _ mw_48) (htl _ mw_169) hd_yX3_init ⟨(Nat.le_of_ble_eq_true rfl), (Nat.le_of_ble_eq_true rfl)⟩, rfl, htl _ mw_170⟩ rfl hl.1 rfl (Nat.le_of_ble_eq_true rfl) dX12_init_181 ⟨(Nat.le_of_ble_eq_true rfl), (Nat.le_of_ble_eq_true rfl)⟩ (fun H locs hG oq hS => ?_)
  have hat_a0 : va_at D vwCl (a0, .inr (12, [.ref K, .ref (K + 16), .ref (K + 49), .ref (K + 50), .ref (K + 54), .ref (K + 224), .ref (K + 226), .ref (K + 234), .ref (K + 277), .null, .null, .ref (K + 225), .null, .int 0, .int 0, .int 0, .int 0])) H := hat_a0.kept (oq _ (by omega) (by omega))
  have hath : va_at D vwCl (K, .inr (2, [.int 0, .ref (K + 1), .ref (K + 2), .ref (K + 3), .int 0, .ref (K + 4), .ref (K + 5), .int 0, .ref (K + 6), .ref (K + 7), .ref (K + 8), .int 0, .ref (K + 9), .int 0, .ref (K + 10), .int (-1), .int 30, .int 50, .int 0, .ref (K + 11)])) H := hath.kept (oq _ (by omega) (by omega))
  have hatk : va_at D vwCl ((K + 49), .inl (cy 2, 2, .inl (fun _ => 0))) H := hatk.kept (oq _ (by omega) (by omega))
  refine W.widen (k := 288) (n := 3808) (Nat.le_of_ble_eq_true rfl) (Nat.le_of_ble_eq_true rfl) ?_
  have hG : rc_G D cy ld t (a0 :: X) (K + 288) H := hG
  refine rc_putF (ci := 12) (v := .ref (K + 285)) (ty := .object "CradleDuel$Making") (C := RX12) (T := TX12) (N := 17) hx hb htl inX12 tyX12 tyX12_ok nmX12 hown hK hat_a0 rfl 9 (by decide) (htl _ mw_49) (fun _ h9 => h9) rfl hin rfl (tyX12_ok 9 (by decide)) rfl rfl (Nat.le_of_ble_eq_true rfl) dX12_init_184 (fun H j9 hat_n z9 oq => ?_)
  have hS := hS.put (k := j9) z9 oq (by show _ = _ ∨ _ ≤ _; omega)
  have hath : va_at D vwCl (K, .inr (2, [.int 0, .ref (K + 1), .ref (K + 2), .ref (K + 3), .int 0, .ref (K + 4), .ref (K + 5), .int 0, .ref (K + 6), .ref (K + 7), .ref (K + 8), .int 0, .ref (K + 9), .int 0, .ref (K + 10), .int (-1), .int 30, .int 50, .int 0, .ref (K + 11)])) H := hath.kept (oq _ (by omega))
  have hatk : va_at D vwCl ((K + 49), .inl (cy 2, 2, .inl (fun _ => 0))) H := hatk.kept (oq _ (by omega))
  have hat_a0 : va_at D vwCl (a0, .inr (12, [.ref K, .ref (K + 16), .ref (K + 49), .ref (K + 50), .ref (K + 54), .ref (K + 224), .ref (K + 226), .ref (K + 234), .ref (K + 277), .ref (K + 285), .null, .ref (K + 225), .null, .int 0, .int 0, .int 0, .int 0])) H := hat_n
  have hG : rc_G D cy ld t (a0 :: X) (K + 288) H := hG.ajar (by simp) z9 oq
  refine lv_aload_n hx hb dX12_init_187 rfl (lv_at hl 0 rfl) ?_
  refine rc_new (ci := 10) (fs := [.null, .null, .null]) (C := RX10) (T := TX10) (N := 3) hx hb htl inX10 tyX10 tyX10_ok hown (htl _ mw_50) (htl _ mw_51) (htl _ mw_52) hK hG hS rfl dfX10 (Nat.le_of_ble_eq_true rfl) (Nat.le_of_ble_eq_true rfl) dX12_init_188 (fun H hG hat_n oq hS => ?_)
  have hat_a0 : va_at D vwCl (a0, .inr (12, [.ref K, .ref (K + 16), .ref (K + 49), .ref (K + 50), .ref (K + 54), .ref (K + 224), .ref (K + 226), .ref (K + 234), .ref (K + 277), .ref (K + 285), .null, .ref (K + 225), .null, .int 0, .int 0, .int 0, .int 0])) H := hat_a0.kept (oq _ (by omega))
  have hath : va_at D vwCl (K, .inr (2, [.int 0, .ref (K + 1), .ref (K + 2), .ref (K + 3), .int 0, .ref (K + 4), .ref (K + 5), .int 0, .ref (K + 6), .ref (K + 7), .ref (K + 8), .int 0, .ref (K + 9), .int 0, .ref (K + 10), .int (-1), .int 30, .int 50, .int 0, .ref (K + 11)])) H := hath.kept (oq _ (by omega))
  have hatk : va_at D vwCl ((K + 49), .inl (cy 2, 2, .inl (fun _ => 0))) H := hatk.kept (oq _ (by omega))
  refine W.widen (k := 289) (n := 3811) (Nat.le_of_ble_eq_true rfl) (Nat.le_of_ble_eq_true rfl) ?_
  have hG : rc_G D cy ld t ((K + 288) :: a0 :: X) (K + 289) H := hG
  have hat_K288 : va_at D vwCl ((K + 288), .inr (10, [.null, .null, .null])) H := hat_n
  refine lv_dup hx hb dX12_init_191 rfl ?_
  refine lv_aload_n hx hb dX12_init_192 rfl (lv_at hl 0 rfl) ?_
  refine va_get (ci := 12) (C := RX12) (T := TX12) (N := 17) hx hb htl inX12 hown hK.1 (tk_one hat_a0) 0 rfl rfl 0 (by decide) (htl _ mw_15) (fun _ h9 => h9) rfl dX12_init_193 ?_
  refine lv_aload_n hx hb dX12_init_196 rfl (lv_at hl 0 rfl) ?_
  refine va_get (ci := 12) (C := RX12) (T := TX12) (N := 17) hx hb htl inX12 hown hK.1 (tk_one hat_a0) 0 rfl rfl 3 (by decide) (htl _ mw_22) (fun _ h9 => h9) rfl dX12_init_197 ?_
  have hXX := kc_X10 l D cy ld t (a0 :: X) (K + 288) (K + 289) K (K + 50) ht288 hs289 ht0 hl_20 ht50  (fun q hq => rc_nin (by omega) (hX q (by omega)))
  refine rc_I (As := [.ref K, .ref (K + 50)]) (rest := [.ref (K + 288), .ref a0]) (ci := 10) (n1 := (K + 290)) ⟨hx, hb, hml, hown, hts⟩ hK hG hat_K288 hS (fun q h9 => by show _ = _ ∨ _ ≤ _; omega) hXX ⟨callB_of 2 hts (wl_in mw_178) rfl rfl rfl (htl _ mw_52) (htl _ mw_176) hd_yX10_init ⟨(Nat.le_of_ble_eq_true rfl), (Nat.le_of_ble_eq_true rfl)⟩, rfl, htl _ mw_177⟩ rfl hl.1 rfl (Nat.le_of_ble_eq_true rfl) dX12_init_200 ⟨(Nat.le_of_ble_eq_true rfl), (Nat.le_of_ble_eq_true rfl)⟩ (fun H locs hG oq hS => ?_)
  have hat_a0 : va_at D vwCl (a0, .inr (12, [.ref K, .ref (K + 16), .ref (K + 49), .ref (K + 50), .ref (K + 54), .ref (K + 224), .ref (K + 226), .ref (K + 234), .ref (K + 277), .ref (K + 285), .null, .ref (K + 225), .null, .int 0, .int 0, .int 0, .int 0])) H := hat_a0.kept (oq _ (by omega) (by omega))
  have hath : va_at D vwCl (K, .inr (2, [.int 0, .ref (K + 1), .ref (K + 2), .ref (K + 3), .int 0, .ref (K + 4), .ref (K + 5), .int 0, .ref (K + 6), .ref (K + 7), .ref (K + 8), .int 0, .ref (K + 9), .int 0, .ref (K + 10), .int (-1), .int 30, .int 50, .int 0, .ref (K + 11)])) H := hath.kept (oq _ (by omega) (by omega))
  have hatk : va_at D vwCl ((K + 49), .inl (cy 2, 2, .inl (fun _ => 0))) H := hatk.kept (oq _ (by omega) (by omega))
  refine W.widen (k := 290) (n := 4811) (Nat.le_of_ble_eq_true rfl) (Nat.le_of_ble_eq_true rfl) ?_
  have hG : rc_G D cy ld t (a0 :: X) (K + 290) H := hG
  refine rc_putF (ci := 12) (v := .ref (K + 288)) (ty := .object "CradleDuel$Strangers") (C := RX12) (T := TX12) (N := 17) hx hb htl inX12 tyX12 tyX12_ok nmX12 hown hK hat_a0 rfl 10 (by decide) (htl _ mw_53) (fun _ h9 => h9) rfl hin rfl (tyX12_ok 10 (by decide)) rfl rfl (Nat.le_of_ble_eq_true rfl) dX12_init_203 (fun H j9 hat_n z9 oq => ?_)
  have hS := hS.put (k := j9) z9 oq (by show _ = _ ∨ _ ≤ _; omega)
  have hath : va_at D vwCl (K, .inr (2, [.int 0, .ref (K + 1), .ref (K + 2), .ref (K + 3), .int 0, .ref (K + 4), .ref (K + 5), .int 0, .ref (K + 6), .ref (K + 7), .ref (K + 8), .int 0, .ref (K + 9), .int 0, .ref (K + 10), .int (-1), .int 30, .int 50, .int 0, .ref (K + 11)])) H := hath.kept (oq _ (by omega))
  have hatk : va_at D vwCl ((K + 49), .inl (cy 2, 2, .inl (fun _ => 0))) H := hatk.kept (oq _ (by omega))
  have hat_a0 : va_at D vwCl (a0, .inr (12, [.ref K, .ref (K + 16), .ref (K + 49), .ref (K + 50), .ref (K + 54), .ref (K + 224), .ref (K + 226), .ref (K + 234), .ref (K + 277), .ref (K + 285), .ref (K + 288), .ref (K + 225), .null, .int 0, .int 0, .int 0, .int 0])) H := hat_n
  have hG : rc_G D cy ld t (a0 :: X) (K + 290) H := hG.ajar (by simp) z9 oq
  refine lv_aload_n hx hb dX12_init_206 rfl (lv_at hl 0 rfl) ?_
  refine lv_iconst (v := 5) hx hb dX12_init_207 (by decide) ?_
  refine rc_newa hx hb (htl _ mw_32) rfl hK hG hS 0 rfl (fun _ h => h) (a0 := (5, .inl (fun _ => 0))) (fun _ => rfl) (by decide) (by decide) (Nat.le_of_ble_eq_true rfl) (Nat.le_of_ble_eq_true rfl) (Nat.le_of_ble_eq_true rfl) dX12_init_208 (fun H hG hat_n oq hS => ?_)
  have hat_a0 : va_at D vwCl (a0, .inr (12, [.ref K, .ref (K + 16), .ref (K + 49), .ref (K + 50), .ref (K + 54), .ref (K + 224), .ref (K + 226), .ref (K + 234), .ref (K + 277), .ref (K + 285), .ref (K + 288), .ref (K + 225), .null, .int 0, .int 0, .int 0, .int 0])) H := hat_a0.kept (oq _ (by omega))
  have hath : va_at D vwCl (K, .inr (2, [.int 0, .ref (K + 1), .ref (K + 2), .ref (K + 3), .int 0, .ref (K + 4), .ref (K + 5), .int 0, .ref (K + 6), .ref (K + 7), .ref (K + 8), .int 0, .ref (K + 9), .int 0, .ref (K + 10), .int (-1), .int 30, .int 50, .int 0, .ref (K + 11)])) H := hath.kept (oq _ (by omega))
  have hatk : va_at D vwCl ((K + 49), .inl (cy 2, 2, .inl (fun _ => 0))) H := hatk.kept (oq _ (by omega))
  refine W.widen (k := 291) (n := 4816) (Nat.le_of_ble_eq_true rfl) (Nat.le_of_ble_eq_true rfl) ?_
  have hG : rc_G D cy ld t (a0 :: X) (K + 291) H := rc_G.close hG hat_n ht290 (rc_arr (by decide) (by decide) (fun j hj => trivial))
  refine rc_putF (ci := 12) (v := .ref (K + 290)) (ty := .array (.int)) (C := RX12) (T := TX12) (N := 17) hx hb htl inX12 tyX12 tyX12_ok nmX12 hown hK hat_a0 rfl 12 (by decide) (htl _ mw_54) (fun _ h9 => h9) rfl hin rfl (tyX12_ok 12 (by decide)) rfl rfl (Nat.le_of_ble_eq_true rfl) dX12_init_210 (fun H j9 hat_n z9 oq => ?_)
  have hS := hS.put (k := j9) z9 oq (by show _ = _ ∨ _ ≤ _; omega)
  have hath : va_at D vwCl (K, .inr (2, [.int 0, .ref (K + 1), .ref (K + 2), .ref (K + 3), .int 0, .ref (K + 4), .ref (K + 5), .int 0, .ref (K + 6), .ref (K + 7), .ref (K + 8), .int 0, .ref (K + 9), .int 0, .ref (K + 10), .int (-1), .int 30, .int 50, .int 0, .ref (K + 11)])) H := hath.kept (oq _ (by omega))
  have hatk : va_at D vwCl ((K + 49), .inl (cy 2, 2, .inl (fun _ => 0))) H := hatk.kept (oq _ (by omega))
  have hat_a0 : va_at D vwCl (a0, .inr (12, [.ref K, .ref (K + 16), .ref (K + 49), .ref (K + 50), .ref (K + 54), .ref (K + 224), .ref (K + 226), .ref (K + 234), .ref (K + 277), .ref (K + 285), .ref (K + 288), .ref (K + 225), .ref (K + 290), .int 0, .int 0, .int 0, .int 0])) H := hat_n
  have hG : rc_G D cy ld t (a0 :: X) (K + 291) H := hG.ajar (by simp) z9 oq
  refine lv_aload_n hx hb dX12_init_213 rfl (lv_at hl 0 rfl) ?_
  refine lv_iconst (v := (-1)) hx hb dX12_init_214 (by decide) ?_
  refine tk_put0 (ci := 12) (v := .int (-1)) (ty := .int) (C := RX12) (T := TX12) (N := 17) hx hb htl inX12 tyX12 tyX12_ok nmX12 hown hK hat_a0 rfl 14 (by decide) (htl _ mw_55) (fun _ h9 => h9) rfl (tyX12_ok 14 (by decide)) rfl rfl (Nat.le_of_ble_eq_true rfl) dX12_init_215 (fun H j9 hat_n z9 oq => ?_)
  have hS := hS.put (k := j9) z9 oq (by show _ = _ ∨ _ ≤ _; omega)
  have hath : va_at D vwCl (K, .inr (2, [.int 0, .ref (K + 1), .ref (K + 2), .ref (K + 3), .int 0, .ref (K + 4), .ref (K + 5), .int 0, .ref (K + 6), .ref (K + 7), .ref (K + 8), .int 0, .ref (K + 9), .int 0, .ref (K + 10), .int (-1), .int 30, .int 50, .int 0, .ref (K + 11)])) H := hath.kept (oq _ (by omega))
  have hatk : va_at D vwCl ((K + 49), .inl (cy 2, 2, .inl (fun _ => 0))) H := hatk.kept (oq _ (by omega))
  have hat_a0 : va_at D vwCl (a0, .inr (12, [.ref K, .ref (K + 16), .ref (K + 49), .ref (K + 50), .ref (K + 54), .ref (K + 224), .ref (K + 226), .ref (K + 234), .ref (K + 277), .ref (K + 285), .ref (K + 288), .ref (K + 225), .ref (K + 290), .int 0, .int (-1), .int 0, .int 0])) H := hat_n
  have hG : rc_G D cy ld t (a0 :: X) (K + 291) H := hG.ajar (by simp) z9 oq
  have hG : rc_G D cy ld t X (K + 291) H := hG.close hat_a0 ht_a0 (rc_obj (ci := 12) (by decide) rfl (fun j sp hj => by
      match j, hj with
      | 0, hj => cases hj; exact ⟨_, rfl, congrArg Value.ref hl_20.symm, (congrArg t hl_20).trans ht0⟩
      | 1, hj => cases hj; exact ⟨_, rfl, _, rfl, ht16⟩
      | 2, hj => cases hj; exact ⟨_, rfl, congrArg Value.ref hl49.symm, (congrArg t hl49).trans ht49⟩
      | 3, hj => cases hj; exact ⟨_, rfl, _, rfl, ht50⟩
      | 4, hj => cases hj; exact ⟨_, rfl, _, rfl, ht54⟩
      | 5, hj => cases hj; exact ⟨_, rfl, _, rfl, ht224⟩
      | 6, hj => cases hj; exact ⟨_, rfl, _, rfl, ht226⟩
      | 7, hj => cases hj; exact ⟨_, rfl, _, rfl, ht234⟩
      | 8, hj => cases hj; exact ⟨_, rfl, _, rfl, ht277⟩
      | 9, hj => cases hj; exact ⟨_, rfl, _, rfl, ht285⟩
      | 10, hj => cases hj; exact ⟨_, rfl, _, rfl, ht288⟩
      | 11, hj => cases hj; exact ⟨_, rfl, congrArg Value.ref hl225.symm, (congrArg t hl225).trans ht225⟩
      | 12, hj => cases hj; exact ⟨_, rfl, _, rfl, ht290⟩
      | 13, hj => cases hj; exact ⟨_, rfl, _, rfl, by decide, by decide⟩
      | 14, hj => cases hj; exact ⟨_, rfl, _, rfl, by decide, by decide⟩
      | 15, hj => cases hj; exact ⟨_, rfl, _, rfl, by decide, by decide⟩
      | 16, hj => cases hj; exact ⟨_, rfl, _, rfl, by decide, by decide⟩
      | j + 17, hj => simp [tk_F] at hj) trivial)
  exact rc_vreta hx hb hr hlocks hG ⟨hat_a0, fun q hq => by rcases List.mem_cons.mp hq with rfl | hq; exact hath; rcases List.mem_singleton.mp hq with rfl; exact hatk⟩ hS dX12_init_218
