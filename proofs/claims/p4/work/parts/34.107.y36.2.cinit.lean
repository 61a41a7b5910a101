theorem dX5_init_0 : decode cX5_init 0 = .ok (.aload_n 0, 1) := by decide +kernel
theorem dX5_init_1 : decode cX5_init 1 = .ok (.invokespecial 3, 3) := by decide +kernel
theorem dX5_init_4 : decode cX5_init 4 = .ok (.aload_n 0, 1) := by decide +kernel
theorem dX5_init_5 : decode cX5_init 5 = .ok (.iconst 5, 1) := by decide +kernel
theorem dX5_init_6 : decode cX5_init 6 = .ok (.anewarray 11, 3) := by decide +kernel
theorem dX5_init_9 : decode cX5_init 9 = .ok (.putfield 13, 3) := by decide +kernel
theorem dX5_init_12 : decode cX5_init 12 = .ok (.aload_n 0, 1) := by decide +kernel
theorem dX5_init_13 : decode cX5_init 13 = .ok (.new 11, 3) := by decide +kernel
theorem dX5_init_16 : decode cX5_init 16 = .ok (.dup, 1) := by decide +kernel
theorem dX5_init_17 : decode cX5_init 17 = .ok (.invokespecial 17, 3) := by decide +kernel
theorem dX5_init_20 : decode cX5_init 20 = .ok (.putfield 18, 3) := by decide +kernel
theorem dX5_init_23 : decode cX5_init 23 = .ok (.aload_n 0, 1) := by decide +kernel
theorem dX5_init_24 : decode cX5_init 24 = .ok (.bipush 8, 2) := by decide +kernel
theorem dX5_init_26 : decode cX5_init 26 = .ok (.bipush 8, 2) := by decide +kernel
theorem dX5_init_28 : decode cX5_init 28 = .ok (.multianewarray 22 2, 4) := by decide +kernel
theorem dX5_init_32 : decode cX5_init 32 = .ok (.putfield 24, 3) := by decide +kernel
theorem dX5_init_35 : decode cX5_init 35 = .ok (.aload_n 0, 1) := by decide +kernel
theorem dX5_init_36 : decode cX5_init 36 = .ok (.bipush 8, 2) := by decide +kernel
theorem dX5_init_38 : decode cX5_init 38 = .ok (.newarray .int, 2) := by decide +kernel
theorem dX5_init_40 : decode cX5_init 40 = .ok (.putfield 27, 3) := by decide +kernel
theorem dX5_init_43 : decode cX5_init 43 = .ok (.aload_n 0, 1) := by decide +kernel
theorem dX5_init_44 : decode cX5_init 44 = .ok (.bipush 8, 2) := by decide +kernel
theorem dX5_init_46 : decode cX5_init 46 = .ok (.newarray .int, 2) := by decide +kernel
theorem dX5_init_48 : decode cX5_init 48 = .ok (.putfield 31, 3) := by decide +kernel
theorem dX5_init_51 : decode cX5_init 51 = .ok (.aload_n 0, 1) := by decide +kernel
theorem dX5_init_52 : decode cX5_init 52 = .ok (.aload_n 1, 1) := by decide +kernel
theorem dX5_init_53 : decode cX5_init 53 = .ok (.putfield 34, 3) := by decide +kernel
theorem dX5_init_56 : decode cX5_init 56 = .ok (.aload_n 0, 1) := by decide +kernel
theorem dX5_init_57 : decode cX5_init 57 = .ok (.aload_n 2, 1) := by decide +kernel
theorem dX5_init_58 : decode cX5_init 58 = .ok (.putfield 38, 3) := by decide +kernel
theorem dX5_init_61 : decode cX5_init 61 = .ok (.iconst 0, 1) := by decide +kernel
theorem dX5_init_62 : decode cX5_init 62 = .ok (.istore_n 3, 1) := by decide +kernel
theorem dX5_init_63 : decode cX5_init 63 = .ok (.iload_n 3, 1) := by decide +kernel
theorem dX5_init_64 : decode cX5_init 64 = .ok (.aload_n 0, 1) := by decide +kernel
theorem dX5_init_65 : decode cX5_init 65 = .ok (.getfield 13, 3) := by decide +kernel
theorem dX5_init_68 : decode cX5_init 68 = .ok (.arraylength, 1) := by decide +kernel
theorem dX5_init_69 : decode cX5_init 69 = .ok (.if_icmp .ge 22, 3) := by decide +kernel
theorem dX5_init_72 : decode cX5_init 72 = .ok (.aload_n 0, 1) := by decide +kernel
theorem dX5_init_73 : decode cX5_init 73 = .ok (.getfield 13, 3) := by decide +kernel
theorem dX5_init_76 : decode cX5_init 76 = .ok (.iload_n 3, 1) := by decide +kernel
theorem dX5_init_77 : decode cX5_init 77 = .ok (.new 11, 3) := by decide +kernel
theorem dX5_init_80 : decode cX5_init 80 = .ok (.dup, 1) := by decide +kernel
theorem dX5_init_81 : decode cX5_init 81 = .ok (.invokespecial 17, 3) := by decide +kernel
theorem dX5_init_84 : decode cX5_init 84 = .ok (.aastore, 1) := by decide +kernel
theorem dX5_init_85 : decode cX5_init 85 = .ok (.iinc 3 1, 3) := by decide +kernel
theorem dX5_init_88 : decode cX5_init 88 = .ok (.goto (-25), 3) := by decide +kernel
theorem dX5_init_91 : decode cX5_init 91 = .ok (.return_, 1) := by decide +kernel
set_option maxHeartbeats 8000000 in
set_option maxRecDepth 100000 in
theorem kc_X5 (l : Launch) (D : va_G) (cy : Nat → ClassId) (ld : Nat → Nat) (t : tk_T) (X : List Nat) (a0 K a1 a2 : Nat) (ht_a0 : t a0 = (6, 0, 0)) (hH : rH5 ld t K) (ht_a1 : t a1 = (3, 0, 0)) (hl_20 : ld 20 = a1) (ht_a2 : t a2 = (9, 0, 0)) (hX : ∀ q : Nat, a0 ≤ q → q ∉ X) : Met l yX5_init (wl yX5_init cX5_init 4 none) ({ frames := 4, cells := 42, slots := 315, locals := 210 }) (rcp D cy ld t X [.ref a0, .ref a1, .ref a2] a0 5 [.null, .null, .null, .int 0, .int 0, .null, .null, .null, .null, .int 0, .int 0] K) (rcq D cy ld t X a0 K (K + 42)) 42 315 (fun q => q = a0 ∨ K ≤ q) := by
  refine rc_met (y := yX5_init) (cc := cX5_init) (maxL := 4) (ret := none) (av := [.ref a0, .ref a1, .ref a2]) _ (by decide) (Nat.le_of_ble_eq_true rfl) ?_
  intro p e s m args below meth c hx hb hr hml hts htl hown hlocks hin hK H locs hbn hG hat_a0 hS ls hl
  have hown : s.vm.findClass RX5 = some m.cls := hown
  have hin : meth.name = "<init>" := hin
  have hl : lv_has ls 4 [(0, .ref a0), (1, .ref a1), (2, .ref a2)] := hl
  obtain ⟨ht0, ht1, hs2, ht6, hg6, ht15, ht16, ht17, hs18, ht22, hs23, ht27, hs28, ht32, hs33, ht37, hs38, hl1, hl17, hl22, hl27, hl32, hl37⟩ := hH
  refine lv_aload_n hx hb dX5_init_0 rfl (lv_at hl 0 rfl) ?_
  refine W.objInit hx hb hown (htl _ mw_147) (htl _ mw_10) (htl _ mw_11) rfl (by rw [hml]; exact hl.1) rfl dX5_init_1 (Nat.le_of_ble_eq_true rfl) (Nat.le_of_ble_eq_true rfl) ?_
  refine W.eq (g2 := F0 m 4 ls []) rfl ?_
  refine lv_aload_n hx hb dX5_init_4 rfl (lv_at hl 0 rfl) ?_
  refine lv_iconst (v := 5) hx hb dX5_init_5 (by decide) ?_
  refine rc_newq (N' := 5) hx hb hown (htl _ mw_148) hK.2.1.1 hK hG hS 3 rfl (by decide) (by decide) (Nat.le_of_ble_eq_true rfl) (Nat.le_of_ble_eq_true rfl) (Nat.le_of_ble_eq_true rfl) dX5_init_6 (fun H hG hat_n oq hS => ?_)
  have hat_a0 : va_at D vwCl (a0, .inr (5, [.null, .null, .null, .int 0, .int 0, .null, .null, .null, .null, .int 0, .int 0])) H := hat_a0.kept (oq _ (by omega))
  refine W.widen (k := 1) (n := 5) (Nat.le_of_ble_eq_true rfl) (Nat.le_of_ble_eq_true rfl) ?_
  have hG : rc_G D cy ld t (K :: a0 :: X) (K + 1) H := hG
  have hat_K : va_at D vwCl (K, .inl (cy 3, 5, .inr (.inr (.inr (.inr (fun _ => none)))))) H := hat_n
  refine rc_putF (ci := 5) (v := .ref K) (ty := .array (.object "CradleDuel$Stand")) (C := RX5) (T := TX5) (N := 11) hx hb htl inX5 tyX5 tyX5_ok nmX5 hown hK hat_a0 rfl 2 (by decide) (htl _ mw_149) (fun _ h9 => h9) rfl hin rfl (tyX5_ok 2 (by decide)) rfl rfl (Nat.le_of_ble_eq_true rfl) dX5_init_9 (fun H j9 hat_n z9 oq => ?_)
  have hS := hS.put (k := j9) z9 oq (by show _ = _ ∨ _ ≤ _; omega)
  have hat_K : va_at D vwCl (K, .inl (cy 3, 5, .inr (.inr (.inr (.inr (fun _ => none)))))) H := hat_K.kept (oq _ (by omega))
  have hat_a0 : va_at D vwCl (a0, .inr (5, [.null, .null, .ref K, .int 0, .int 0, .null, .null, .null, .null, .int 0, .int 0])) H := hat_n
  have hG : rc_G D cy ld t (K :: a0 :: X) (K + 1) H := hG.ajar (by simp) z9 oq
  refine lv_aload_n hx hb dX5_init_12 rfl (lv_at hl 0 rfl) ?_
  refine rc_new (ci := 9) (fs := [.null, .null, .null, .null, .int 0, .int 0, .int 0, .int 0, .int 0, .int 0, .int 0]) (C := RX9) (T := TX9) (N := 11) hx hb htl inX9 tyX9 tyX9_ok hown (htl _ mw_148) (htl _ mw_75) (htl _ mw_76) hK hG hS rfl dfX9 (Nat.le_of_ble_eq_true rfl) (Nat.le_of_ble_eq_true rfl) dX5_init_13 (fun H hG hat_n oq hS => ?_)
  have hat_a0 : va_at D vwCl (a0, .inr (5, [.null, .null, .ref K, .int 0, .int 0, .null, .null, .null, .null, .int 0, .int 0])) H := hat_a0.kept (oq _ (by omega))
  have hat_K : va_at D vwCl (K, .inl (cy 3, 5, .inr (.inr (.inr (.inr (fun _ => none)))))) H := hat_K.kept (oq _ (by omega))
  refine W.widen (k := 2) (n := 16) (Nat.le_of_ble_eq_true rfl) (Nat.le_of_ble_eq_true rfl) ?_
  have hG : rc_G D cy ld t ((K + 1) :: K :: a0 :: X) (K + 2) H := hG
  have hat_K1 : va_at D vwCl ((K + 1), .inr (9, [.null, .null, .null, .null, .int 0, .int 0, .int 0, .int 0, .int 0, .int 0, .int 0])) H := hat_n
  refine lv_dup hx hb dX5_init_16 rfl ?_
  have hXX := kc_X9 l D cy ld t (K :: a0 :: X) (K + 1) (K + 2) 4 ht1 hs2  (fun q hq => rc_nin (by omega) (rc_nin (by omega) (hX q (by omega))))
  refine rc_I (As := []) (rest := [.ref (K + 1), .ref a0]) (ci := 9) (n1 := (K + 6)) ⟨hx, hb, hml, hown, hts⟩ hK hG hat_K1 hS (fun q h9 => by show _ = _ ∨ _ ≤ _; omega) hXX ⟨callB_of 0 hts (wl_in mw_80) rfl rfl rfl (htl _ mw_76) (htl _ mw_157) hd_yX9_init ⟨(Nat.le_of_ble_eq_true rfl), (Nat.le_of_ble_eq_true rfl)⟩, rfl, htl _ mw_79⟩ rfl hl.1 rfl (Nat.le_of_ble_eq_true rfl) dX5_init_17 ⟨(Nat.le_of_ble_eq_true rfl), (Nat.le_of_ble_eq_true rfl)⟩ (fun H locs hG oq hS => ?_)
  have hat_a0 : va_at D vwCl (a0, .inr (5, [.null, .null, .ref K, .int 0, .int 0, .null, .null, .null, .null, .int 0, .int 0])) H := hat_a0.kept (oq _ (by omega) (by omega))
  have hat_K : va_at D vwCl (K, .inl (cy 3, 5, .inr (.inr (.inr (.inr (fun _ => none)))))) H := hat_K.kept (oq _ (by omega) (by omega))
  refine W.widen (k := 6) (n := 42) (Nat.le_of_ble_eq_true rfl) (Nat.le_of_ble_eq_true rfl) ?_
  have hG : rc_G D cy ld t (K :: a0 :: X) (K + 6) H := hG
  refine rc_putF (ci := 5) (v := .ref (K + 1)) (ty := .object "CradleDuel$Stand") (C := RX5) (T := TX5) (N := 11) hx hb htl inX5 tyX5 tyX5_ok nmX5 hown hK hat_a0 rfl 5 (by decide) (htl _ mw_150) (fun _ h9 => h9) rfl hin rfl (tyX5_ok 5 (by decide)) rfl rfl (Nat.le_of_ble_eq_true rfl) dX5_init_20 (fun H j9 hat_n z9 oq => ?_)
  have hS := hS.put (k := j9) z9 oq (by show _ = _ ∨ _ ≤ _; omega)
  have hat_K : va_at D vwCl (K, .inl (cy 3, 5, .inr (.inr (.inr (.inr (fun _ => none)))))) H := hat_K.kept (oq _ (by omega))
  have hat_a0 : va_at D vwCl (a0, .inr (5, [.null, .null, .ref K, .int 0, .int 0, .ref (K + 1), .null, .null, .null, .int 0, .int 0])) H := hat_n
  have hG : rc_G D cy ld t (K :: a0 :: X) (K + 6) H := hG.ajar (by simp) z9 oq
  refine lv_aload_n hx hb dX5_init_23 rfl (lv_at hl 0 rfl) ?_
  refine lv_bipush (v := 8) hx hb dX5_init_24 (by decide) ?_
  refine lv_bipush (v := 8) hx hb dX5_init_26 (by decide) ?_
  refine rc_grid (ty := .int) hx hb rfl hown (htl _ mw_151) hK.2.2.1 (htl _ mw_32) hK hG hS (Nat.le_of_ble_eq_true rfl) (Nat.le_of_ble_eq_true rfl) dX5_init_28 ht6 hg6 (fun H hG oq hS => ?_)
  have hat_a0 : va_at D vwCl (a0, .inr (5, [.null, .null, .ref K, .int 0, .int 0, .ref (K + 1), .null, .null, .null, .int 0, .int 0])) H := hat_a0.kept (oq _ (by omega))
  have hat_K : va_at D vwCl (K, .inl (cy 3, 5, .inr (.inr (.inr (.inr (fun _ => none)))))) H := hat_K.kept (oq _ (by omega))
  refine W.widen (k := 15) (n := 114) (Nat.le_of_ble_eq_true rfl) (Nat.le_of_ble_eq_true rfl) ?_
  have hG : rc_G D cy ld t (K :: a0 :: X) (K + 15) H := hG
  refine rc_putF (ci := 5) (v := .ref (K + 6)) (ty := .array (.array (.int))) (C := RX5) (T := TX5) (N := 11) hx hb htl inX5 tyX5 tyX5_ok nmX5 hown hK hat_a0 rfl 6 (by decide) (htl _ mw_152) (fun _ h9 => h9) rfl hin rfl (tyX5_ok 6 (by decide)) rfl rfl (Nat.le_of_ble_eq_true rfl) dX5_init_32 (fun H j9 hat_n z9 oq => ?_)
  have hS := hS.put (k := j9) z9 oq (by show _ = _ ∨ _ ≤ _; omega)
  have hat_K : va_at D vwCl (K, .inl (cy 3, 5, .inr (.inr (.inr (.inr (fun _ => none)))))) H := hat_K.kept (oq _ (by omega))
  have hat_a0 : va_at D vwCl (a0, .inr (5, [.null, .null, .ref K, .int 0, .int 0, .ref (K + 1), .ref (K + 6), .null, .null, .int 0, .int 0])) H := hat_n
  have hG : rc_G D cy ld t (K :: a0 :: X) (K + 15) H := hG.ajar (by simp) z9 oq
  refine lv_aload_n hx hb dX5_init_35 rfl (lv_at hl 0 rfl) ?_
  refine lv_bipush (v := 8) hx hb dX5_init_36 (by decide) ?_
  refine rc_newa hx hb (htl _ mw_32) rfl hK hG hS 0 rfl (fun _ h => h) (a0 := (8, .inl (fun _ => 0))) (fun _ => rfl) (by decide) (by decide) (Nat.le_of_ble_eq_true rfl) (Nat.le_of_ble_eq_true rfl) (Nat.le_of_ble_eq_true rfl) dX5_init_38 (fun H hG hat_n oq hS => ?_)
  have hat_a0 : va_at D vwCl (a0, .inr (5, [.null, .null, .ref K, .int 0, .int 0, .ref (K + 1), .ref (K + 6), .null, .null, .int 0, .int 0])) H := hat_a0.kept (oq _ (by omega))
  have hat_K : va_at D vwCl (K, .inl (cy 3, 5, .inr (.inr (.inr (.inr (fun _ => none)))))) H := hat_K.kept (oq _ (by omega))
  refine W.widen (k := 16) (n := 122) (Nat.le_of_ble_eq_true rfl) (Nat.le_of_ble_eq_true rfl) ?_
  have hG : rc_G D cy ld t (K :: a0 :: X) (K + 16) H := rc_G.close hG hat_n ht15 (rc_arr (by decide) (by decide) (fun j hj => trivial))
  refine rc_putF (ci := 5) (v := .ref (K + 15)) (ty := .array (.int)) (C := RX5) (T := TX5) (N := 11) hx hb htl inX5 tyX5 tyX5_ok nmX5 hown hK hat_a0 rfl 7 (by decide) (htl _ mw_153) (fun _ h9 => h9) rfl hin rfl (tyX5_ok 7 (by decide)) rfl rfl (Nat.le_of_ble_eq_true rfl) dX5_init_40 (fun H j9 hat_n z9 oq => ?_)
  have hS := hS.put (k := j9) z9 oq (by show _ = _ ∨ _ ≤ _; omega)
  have hat_K : va_at D vwCl (K, .inl (cy 3, 5, .inr (.inr (.inr (.inr (fun _ => none)))))) H := hat_K.kept (oq _ (by omega))
  have hat_a0 : va_at D vwCl (a0, .inr (5, [.null, .null, .ref K, .int 0, .int 0, .ref (K + 1), .ref (K + 6), .ref (K + 15), .null, .int 0, .int 0])) H := hat_n
  have hG : rc_G D cy ld t (K :: a0 :: X) (K + 16) H := hG.ajar (by simp) z9 oq
  refine lv_aload_n hx hb dX5_init_43 rfl (lv_at hl 0 rfl) ?_
  refine lv_bipush (v := 8) hx hb dX5_init_44 (by decide) ?_
  refine rc_newa hx hb (htl _ mw_32) rfl hK hG hS 0 rfl (fun _ h => h) (a0 := (8, .inl (fun _ => 0))) (fun _ => rfl) (by decide) (by decide) (Nat.le_of_ble_eq_true rfl) (Nat.le_of_ble_eq_true rfl) (Nat.le_of_ble_eq_true rfl) dX5_init_46 (fun H hG hat_n oq hS => ?_)
  have hat_a0 : va_at D vwCl (a0, .inr (5, [.null, .null, .ref K, .int 0, .int 0, .ref (K + 1), .ref (K + 6), .ref (K + 15), .null, .int 0, .int 0])) H := hat_a0.kept (oq _ (by omega))
  have hat_K : va_at D vwCl (K, .inl (cy 3, 5, .inr (.inr (.inr (.inr (fun _ => none)))))) H := hat_K.kept (oq _ (by omega))
  refine W.widen (k := 17) (n := 130) (Nat.le_of_ble_eq_true rfl) (Nat.le_of_ble_eq_true rfl) ?_
  have hG : rc_G D cy ld t (K :: a0 :: X) (K + 17) H := rc_G.close hG hat_n ht16 (rc_arr (by decide) (by decide) (fun j hj => trivial))
  refine rc_putF (ci := 5) (v := .ref (K + 16)) (ty := .array (.int)) (C := RX5) (T := TX5) (N := 11) hx hb htl inX5 tyX5 tyX5_ok nmX5 hown hK hat_a0 rfl 8 (by decide) (htl _ mw_154) (fun _ h9 => h9) rfl hin rfl (tyX5_ok 8 (by decide)) rfl rfl (Nat.le_of_ble_eq_true rfl) dX5_init_48 (fun H j9 hat_n z9 oq => ?_)
  have hS := hS.put (k := j9) z9 oq (by show _ = _ ∨ _ ≤ _; omega)
  have hat_K : va_at D vwCl (K, .inl (cy 3, 5, .inr (.inr (.inr (.inr (fun _ => none)))))) H := hat_K.kept (oq _ (by omega))
  have hat_a0 : va_at D vwCl (a0, .inr (5, [.null, .null, .ref K, .int 0, .int 0, .ref (K + 1), .ref (K + 6), .ref (K + 15), .ref (K + 16), .int 0, .int 0])) H := hat_n
  have hG : rc_G D cy ld t (K :: a0 :: X) (K + 17) H := hG.ajar (by simp) z9 oq
  refine lv_aload_n hx hb dX5_init_51 rfl (lv_at hl 0 rfl) ?_
  refine lv_aload_n hx hb dX5_init_52 rfl (lv_at hl 1 rfl) ?_
  refine rc_putF (ci := 5) (v := .ref a1) (ty := .object "CradleDuel$Hills") (C := RX5) (T := TX5) (N := 11) hx hb htl inX5 tyX5 tyX5_ok nmX5 hown hK hat_a0 rfl 0 (by decide) (htl _ mw_155) (fun _ h9 => h9) rfl hin rfl (tyX5_ok 0 (by decide)) rfl rfl (Nat.le_of_ble_eq_true rfl) dX5_init_53 (fun H j9 hat_n z9 oq => ?_)
  have hS := hS.put (k := j9) z9 oq (by show _ = _ ∨ _ ≤ _; omega)
  have hat_K : va_at D vwCl (K, .inl (cy 3, 5, .inr (.inr (.inr (.inr (fun _ => none)))))) H := hat_K.kept (oq _ (by omega))
  have hat_a0 : va_at D vwCl (a0, .inr (5, [.ref a1, .null, .ref K, .int 0, .int 0, .ref (K + 1), .ref (K + 6), .ref (K + 15), .ref (K + 16), .int 0, .int 0])) H := hat_n
  have hG : rc_G D cy ld t (K :: a0 :: X) (K + 17) H := hG.ajar (by simp) z9 oq
  refine lv_aload_n hx hb dX5_init_56 rfl (lv_at hl 0 rfl) ?_
  refine lv_aload_n hx hb dX5_init_57 rfl (lv_at hl 2 rfl) ?_
  refine rc_putF (ci := 5) (v := .ref a2) (ty := .object "CradleDuel$Singing") (C := RX5) (T := TX5) (N := 11) hx hb htl inX5 tyX5 tyX5_ok nmX5 hown hK hat_a0 rfl 1 (by decide) (htl _ mw_156) (fun _ h9 => h9) rfl hin rfl (tyX5_ok 1 (by decide)) rfl rfl (Nat.le_of_ble_eq_true rfl) dX5_init_58 (fun H j9 hat_n z9 oq => ?_)
  have hS := hS.put (k := j9) z9 oq (by show _ = _ ∨ _ ≤ _; omega)
  have hat_K : va_at D vwCl (K, .inl (cy 3, 5, .inr (.inr (.inr (.inr (fun _ => none)))))) H := hat_K.kept (oq _ (by omega))
  have hat_a0 : va_at D vwCl (a0, .inr (5, [.ref a1, .ref a2, .ref K, .int 0, .int 0, .ref (K + 1), .ref (K + 6), .ref (K + 15), .ref (K + 16), .int 0, .int 0])) H := hat_n
  have hG : rc_G D cy ld t (K :: a0 :: X) (K + 17) H := hG.ajar (by simp) z9 oq
  refine lv_iconst (v := 0) hx hb dX5_init_61 (by decide) ?_
  refine lv_istore_n (lv' := [(3, .int 0), (0, .ref a0), (1, .ref a1), (2, .ref a2)]) hx hb dX5_init_62 rfl hl (by decide) rfl (fun ls hl => ?_)
  refine lv_iload_n hx hb dX5_init_63 rfl (lv_at hl 0 rfl) ?_
  refine lv_aload_n hx hb dX5_init_64 rfl (lv_at hl 1 rfl) ?_
  refine va_get (ci := 5) (C := RX5) (T := TX5) (N := 11) hx hb htl inX5 hown hK.1 (tk_one hat_a0) 0 rfl rfl 2 (by decide) (htl _ mw_149) (fun _ h9 => h9) rfl dX5_init_65 ?_
  refine va_alen (v := 5) hx hb hK.1 (tk_one hat_K) 0 3 rfl rfl rfl dX5_init_68 ?_
  refine lv_icmp_ge (tgt := 91) hx hb dX5_init_69 (by decide) (fun c9 => absurd c9 (by decide)) (fun _ => ?_)
  refine lv_aload_n hx hb dX5_init_72 rfl (lv_at hl 1 rfl) ?_
  refine va_get (ci := 5) (C := RX5) (T := TX5) (N := 11) hx hb htl inX5 hown hK.1 (tk_one hat_a0) 0 rfl rfl 2 (by decide) (htl _ mw_149) (fun _ h9 => h9) rfl dX5_init_73 ?_
  refine lv_iload_n hx hb dX5_init_76 rfl (lv_at hl 0 rfl) ?_
  refine rc_new (ci := 9) (fs := [.null, .null, .null, .null, .int 0, .int 0, .int 0, .int 0, .int 0, .int 0, .int 0]) (C := RX9) (T := TX9) (N := 11) hx hb htl inX9 tyX9 tyX9_ok hown (htl _ mw_148) (htl _ mw_75) (htl _ mw_76) hK hG hS rfl dfX9 (Nat.le_of_ble_eq_true rfl) (Nat.le_of_ble_eq_true rfl) dX5_init_77 (fun H hG hat_n oq hS => ?_)
  have hat_a0 : va_at D vwCl (a0, .inr (5, [.ref a1, .ref a2, .ref K, .int 0, .int 0, .ref (K + 1), .ref (K + 6), .ref (K + 15), .ref (K + 16), .int 0, .int 0])) H := hat_a0.kept (oq _ (by omega))
  have hat_K : va_at D vwCl (K, .inl (cy 3, 5, .inr (.inr (.inr (.inr (fun _ => none)))))) H := hat_K.kept (oq _ (by omega))
  refine W.widen (k := 18) (n := 141) (Nat.le_of_ble_eq_true rfl) (Nat.le_of_ble_eq_true rfl) ?_
  have hG : rc_G D cy ld t ((K + 17) :: K :: a0 :: X) (K + 18) H := hG
  have hat_K17 : va_at D vwCl ((K + 17), .inr (9, [.null, .null, .null, .null, .int 0, .int 0, .int 0, .int 0, .int 0, .int 0, .int 0])) H := hat_n
  refine lv_dup hx hb dX5_init_80 rfl ?_
  have hXX := kc_X9 l D cy ld t (K :: a0 :: X) (K + 17) (K + 18) 10 ht17 hs18  (fun q hq => rc_nin (by omega) (rc_nin (by omega) (hX q (by omega))))
  refine rc_I (As := []) (rest := [.ref (K + 17), .int 0, .ref K]) (ci := 9) (n1 := (K + 22)) ⟨hx, hb, hml, hown, hts⟩ hK hG hat_K17 hS (fun q h9 => by show _ = _ ∨ _ ≤ _; omega) hXX ⟨callB_of 0 hts (wl_in mw_80) rfl rfl rfl (htl _ mw_76) (htl _ mw_157) hd_yX9_init ⟨(Nat.le_of_ble_eq_true rfl), (Nat.le_of_ble_eq_true rfl)⟩, rfl, htl _ mw_79⟩ rfl hl.1 rfl (Nat.le_of_ble_eq_true rfl) dX5_init_81 ⟨(Nat.le_of_ble_eq_true rfl), (Nat.le_of_ble_eq_true rfl)⟩ (fun H locs hG oq hS => ?_)
  have hat_a0 : va_at D vwCl (a0, .inr (5, [.ref a1, .ref a2, .ref K, .int 0, .int 0, .ref (K + 1), .ref (K + 6), .ref (K + 15), .ref (K + 16), .int 0, .int 0])) H := hat_a0.kept (oq _ (by omega) (by omega))
  have hat_K : va_at D vwCl (K, .inl (cy 3, 5, .inr (.inr (.inr (.inr (fun _ => none)))))) H := hat_K.kept (oq _ (by omega) (by omega))
  refine W.widen (k := 22) (n := 167) (Nat.le_of_ble_eq_true rfl) (Nat.le_of_ble_eq_true rfl) ?_
  have hG : rc_G D cy ld t (K :: a0 :: X) (K + 22) H := hG
  obtain ⟨fs9, hv9, -⟩ := hG.obj (ci := 9) ht17 (by decide) (by omega) (rc_nin (by omega) ( rc_nin (by omega) (hX _ (by omega))))
  refine rc_aast (ci := 9) (r := (RX9, TX9, 11)) hx hb hK 3 hat_K rfl hv9 rfl (fx_in (by decide)) dX5_init_84 (fun H j9 hat_n z9 oq => ?_)
  have hS := hS.put (k := j9) z9 oq (by show _ = _ ∨ _ ≤ _; omega)
  have hat_a0 : va_at D vwCl (a0, .inr (5, [.ref a1, .ref a2, .ref K, .int 0, .int 0, .ref (K + 1), .ref (K + 6), .ref (K + 15), .ref (K + 16), .int 0, .int 0])) H := hat_a0.kept (oq _ (by omega))
  have hat_K : va_at D vwCl (K, .inl (cy 3, 5, .inr (.inr (.inr (.inr (va_up (fun _ => none) (0 : Int32).toNatClampNeg (some (K + 17)))))))) H := hat_n
  have hG : rc_G D cy ld t (K :: a0 :: X) (K + 22) H := hG.ajar (by simp) z9 oq
  refine lv_iinc (v := 1) (lv' := [(3, .int 1), (0, .ref a0), (1, .ref a1), (2, .ref a2)]) hx hb dX5_init_85 hl (k := 0) rfl (by decide) (by decide) rfl (fun ls hl => ?_)
  refine lv_goto (tgt := 63) hx hb dX5_init_88 (by decide) ?_
  refine lv_iload_n hx hb dX5_init_63 rfl (lv_at hl 0 rfl) ?_
  refine lv_aload_n hx hb dX5_init_64 rfl (lv_at hl 1 rfl) ?_
  refine va_get (ci := 5) (C := RX5) (T := TX5) (N := 11) hx hb htl inX5 hown hK.1 (tk_one hat_a0) 0 rfl rfl 2 (by decide) (htl _ mw_149) (fun _ h9 => h9) rfl dX5_init_65 ?_
  refine va_alen (v := 5) hx hb hK.1 (tk_one hat_K) 0 3 rfl rfl rfl dX5_init_68 ?_
  refine lv_icmp_ge (tgt := 91) hx hb dX5_init_69 (by decide) (fun c9 => absurd c9 (by decide)) (fun _ => ?_)
  refine lv_aload_n hx hb dX5_init_72 rfl (lv_at hl 1 rfl) ?_
  refine va_get (ci := 5) (C := RX5) (T := TX5) (N := 11) hx hb htl inX5 hown hK.1 (tk_one hat_a0) 0 rfl rfl 2 (by decide) (htl _ mw_149) (fun _ h9 => h9) rfl dX5_init_73 ?_
  refine lv_iload_n hx hb dX5_init_76 rfl (lv_at hl 0 rfl) ?_
  refine rc_new (ci := 9) (fs := [.null, .null, .null, .null, .int 0, .int 0, .int 0, .int 0, .int 0, .int 0, .int 0]) (C := RX9) (T := TX9) (N := 11) hx hb htl inX9 tyX9 tyX9_ok hown (htl _ mw_148) (htl _ mw_75) (htl _ mw_76) hK hG hS rfl dfX9 (Nat.le_of_ble_eq_true rfl) (Nat.le_of_ble_eq_true rfl) dX5_init_77 (fun H hG hat_n oq hS => ?_)
  have hat_a0 : va_at D vwCl (a0, .inr (5, [.ref a1, .ref a2, .ref K, .int 0, .int 0, .ref (K + 1), .ref (K + 6), .ref (K + 15), .ref (K + 16), .int 0, .int 0])) H := hat_a0.kept (oq _ (by omega))
  have hat_K : va_at D vwCl (K, .inl (cy 3, 5, .inr (.inr (.inr (.inr (va_up (fun _ => none) (0 : Int32).toNatClampNeg (some (K + 17)))))))) H := hat_K.kept (oq _ (by omega))
  refine W.widen (k := 23) (n := 178) (Nat.le_of_ble_eq_true rfl) (Nat.le_of_ble_eq_true rfl) ?_
  have hG : rc_G D cy ld t ((K + 22) :: K :: a0 :: X) (K + 23) H := hG
  have hat_K22 : va_at D vwCl ((K + 22), .inr (9, [.null, .null, .null, .null, .int 0, .int 0, .int 0, .int 0, .int 0, .int 0, .int 0])) H := hat_n
  refine lv_dup hx hb dX5_init_80 rfl ?_
  have hXX := kc_X9 l D cy ld t (K :: a0 :: X) (K + 22) (K + 23) 11 ht22 hs23  (fun q hq => rc_nin (by omega) (rc_nin (by omega) (hX q (by omega))))
  refine rc_I (As := []) (rest := [.ref (K + 22), .int 1, .ref K]) (ci := 9) (n1 := (K + 27)) ⟨hx, hb, hml, hown, hts⟩ hK hG hat_K22 hS (fun q h9 => by show _ = _ ∨ _ ≤ _; omega) hXX ⟨callB_of 0 hts (wl_in mw_80) rfl rfl rfl (htl _ mw_76) (htl _ mw_157) hd_yX9_init ⟨(Nat.le_of_ble_eq_true rfl), (Nat.le_of_ble_eq_true rfl)⟩, rfl, htl _ mw_79⟩ rfl hl.1 rfl (Nat.le_of_ble_eq_true rfl) dX5_init_81 ⟨(Nat.le_of_ble_eq_true rfl), (Nat.le_of_ble_eq_true rfl)⟩ (fun H locs hG oq hS => ?_)
  have hat_a0 : va_at D vwCl (a0, .inr (5, [.ref a1, .ref a2, .ref K, .int 0, .int 0, .ref (K + 1), .ref (K + 6), .ref (K + 15), .ref (K + 16), .int 0, .int 0])) H := hat_a0.kept (oq _ (by omega) (by omega))
  have hat_K : va_at D vwCl (K, .inl (cy 3, 5, .inr (.inr (.inr (.inr (va_up (fun _ => none) (0 : Int32).toNatClampNeg (some (K + 17)))))))) H := hat_K.kept (oq _ (by omega) (by omega))
  refine W.widen (k := 27) (n := 204) (Nat.le_of_ble_eq_true rfl) (Nat.le_of_ble_eq_true rfl) ?_
  have hG : rc_G D cy ld t (K :: a0 :: X) (K + 27) H := hG
  obtain ⟨fs9, hv9, -⟩ := hG.obj (ci := 9) ht22 (by decide) (by omega) (rc_nin (by omega) ( rc_nin (by omega) (hX _ (by omega))))
  refine rc_aast (ci := 9) (r := (RX9, TX9, 11)) hx hb hK 3 hat_K rfl hv9 rfl (fx_in (by decide)) dX5_init_84 (fun H j9 hat_n z9 oq => ?_)
  have hS := hS.put (k := j9) z9 oq (by show _ = _ ∨ _ ≤ _; omega)
  have hat_a0 : va_at D vwCl (a0, .inr (5, [.ref a1, .ref a2, .ref K, .int 0, .int 0, .ref (K + 1), .ref (K + 6), .ref (K + 15), .ref (K + 16), .int 0, .int 0])) H := hat_a0.kept (oq _ (by omega))
  have hat_K : va_at D vwCl (K, .inl (cy 3, 5, .inr (.inr (.inr (.inr (va_up (va_up (fun _ => none) (0 : Int32).toNatClampNeg (some (K + 17))) (1 : Int32).toNatClampNeg (some (K + 22)))))))) H := hat_n
  have hG : rc_G D cy ld t (K :: a0 :: X) (K + 27) H := hG.ajar (by simp) z9 oq
  refine lv_iinc (v := 2) (lv' := [(3, .int 2), (0, .ref a0), (1, .ref a1), (2, .ref a2)]) hx hb dX5_init_85 hl (k := 0) rfl (by decide) (by decide) rfl (fun ls hl => ?_)
  refine lv_goto (tgt := 63) hx hb dX5_init_88 (by decide) ?_
  refine lv_iload_n hx hb dX5_init_63 rfl (lv_at hl 0 rfl) ?_
  refine lv_aload_n hx hb dX5_init_64 rfl (lv_at hl 1 rfl) ?_
  refine va_get (ci := 5) (C := RX5) (T := TX5) (N := 11) hx hb htl inX5 hown hK.1 (tk_one hat_a0) 0 rfl rfl 2 (by decide) (htl _ mw_149) (fun _ h9 => h9) rfl dX5_init_65 ?_
  refine va_alen (v := 5) hx hb hK.1 (tk_one hat_K) 0 3 rfl rfl rfl dX5_init_68 ?_
  refine lv_icmp_ge (tgt := 91) hx hb dX5_init_69 (by decide) (fun c9 => absurd c9 (by decide)) (fun _ => ?_)
  refine lv_aload_n hx hb dX5_init_72 rfl (lv_at hl 1 rfl) ?_
  refine va_get (ci := 5) (C := RX5) (T := TX5) (N := 11) hx hb htl inX5 hown hK.1 (tk_one hat_a0) 0 rfl rfl 2 (by decide) (htl _ mw_149) (fun _ h9 => h9) rfl dX5_init_73 ?_
  refine lv_iload_n hx hb dX5_init_76 rfl (lv_at hl 0 rfl) ?_
  refine rc_new (ci := 9) (fs := [.null, .null, .null, .null, .int 0, .int 0, .int 0, .int 0, .int 0, .int 0, .int 0]) (C := RX9) (T := TX9) (N := 11) hx hb htl inX9 tyX9 tyX9_ok hown (htl _ mw_148) (htl _ mw_75) (htl _ mw_76) hK hG hS rfl dfX9 (Nat.le_of_ble_eq_true rfl) (Nat.le_of_ble_eq_true rfl) dX5_init_77 (fun H hG hat_n oq hS => ?_)
  have hat_a0 : va_at D vwCl (a0, .inr (5, [.ref a1, .ref a2, .ref K, .int 0, .int 0, .ref (K + 1), .ref (K + 6), .ref (K + 15), .ref (K + 16), .int 0, .int 0])) H := hat_a0.kept (oq _ (by omega))
  have hat_K : va_at D vwCl (K, .inl (cy 3, 5, .inr (.inr (.inr (.inr (va_up (va_up (fun _ => none) (0 : Int32).toNatClampNeg (some (K + 17))) (1 : Int32).toNatClampNeg (some (K + 22)))))))) H := hat_K.kept (oq _ (by omega))
  refine W.widen (k := 28) (n := 215) (Nat.le_of_ble_eq_true rfl) (Nat.le_of_ble_eq_true rfl) ?_
  have hG : rc_G D cy ld t ((K + 27) :: K :: a0 :: X) (K + 28) H := hG
  have hat_K27 : va_at D vwCl ((K + 27), .inr (9, [.null, .null, .null, .null, .int 0, .int 0, .int 0, .int 0, .int 0, .int 0, .int 0])) H := hat_n
  refine lv_dup hx hb dX5_init_80 rfl ?_
  have hXX := kc_X9 l D cy ld t (K :: a0 :: X) (K + 27) (K + 28) 12 ht27 hs28  (fun q hq => rc_nin (by omega) (rc_nin (by omega) (hX q (by omega))))
  refine rc_I (As := []) (rest := [.ref (K + 27), .int 2, .ref K]) (ci := 9) (n1 := (K + 32)) ⟨hx, hb, hml, hown, hts⟩ hK hG hat_K27 hS (fun q h9 => by show _ = _ ∨ _ ≤ _; omega) hXX ⟨callB_of 0 hts (wl_in mw_80) rfl rfl rfl (htl _ mw_76) (htl _ mw_157) hd_yX9_init ⟨(Nat.le_of_ble_eq_true rfl), (Nat.le_of_ble_eq_true rfl)⟩, rfl, htl _ mw_79⟩ rfl hl.1 rfl (Nat.le_of_ble_eq_true rfl) dX5_init_81 ⟨(Nat.le_of_ble_eq_true rfl), (Nat.le_of_ble_eq_true rfl)⟩ (fun H locs hG oq hS => ?_)
  have hat_a0 : va_at D vwCl (a0, .inr (5, [.ref a1, .ref a2, .ref K, .int 0, .int 0, .ref (K + 1), .ref (K + 6), .ref (K + 15), .ref (K + 16), .int 0, .int 0])) H := hat_a0.kept (oq _ (by omega) (by omega))
  have hat_K : va_at D vwCl (K, .inl (cy 3, 5, .inr (.inr (.inr (.inr (va_up (va_up (fun _ => none) (0 : Int32).toNatClampNeg (some (K + 17))) (1 : Int32).toNatClampNeg (some (K + 22)))))))) H := hat_K.kept (oq _ (by omega) (by omega))
  refine W.widen (k := 32) (n := 241) (Nat.le_of_ble_eq_true rfl) (Nat.le_of_ble_eq_true rfl) ?_
  have hG : rc_G D cy ld t (K :: a0 :: X) (K + 32) H := hG
  obtain ⟨fs9, hv9, -⟩ := hG.obj (ci := 9) ht27 (by decide) (by omega) (rc_nin (by omega) ( rc_nin (by omega) (hX _ (by omega))))
  refine rc_aast (ci := 9) (r := (RX9, TX9, 11)) hx hb hK 3 hat_K rfl hv9 rfl (fx_in (by decide)) dX5_init_84 (fun H j9 hat_n z9 oq => ?_)
  have hS := hS.put (k := j9) z9 oq (by show _ = _ ∨ _ ≤ _; omega)
  have hat_a0 : va_at D vwCl (a0, .inr (5, [.ref a1, .ref a2, .ref K, .int 0, .int 0, .ref (K + 1), .ref (K + 6), .ref (K + 15), .ref (K + 16), .int 0, .int 0])) H := hat_a0.kept (oq _ (by omega))
  have hat_K : va_at D vwCl (K, .inl (cy 3, 5, .inr (.inr (.inr (.inr (va_up (va_up (va_up (fun _ => none) (0 : Int32).toNatClampNeg (some (K + 17))) (1 : Int32).toNatClampNeg (some (K + 22))) (2 : Int32).toNatClampNeg (some (K + 27)))))))) H := hat_n
  have hG : rc_G D cy ld t (K :: a0 :: X) (K + 32) H := hG.ajar (by simp) z9 oq
  refine lv_iinc (v := 3) (lv' := [(3, .int 3), (0, .ref a0), (1, .ref a1), (2, .ref a2)]) hx hb dX5_init_85 hl (k := 0) rfl (by decide) (by decide) rfl (fun ls hl => ?_)
  refine lv_goto (tgt := 63) hx hb dX5_init_88 (by decide) ?_
  refine lv_iload_n hx hb dX5_init_63 rfl (lv_at hl 0 rfl) ?_
  refine lv_aload_n hx hb dX5_init_64 rfl (lv_at hl 1 rfl) ?_
  refine va_get (ci := 5) (C := RX5) (T := TX5) (N := 11) hx hb htl inX5 hown hK.1 (tk_one hat_a0) 0 rfl rfl 2 (by decide) (htl _ mw_149) (fun _ h9 => h9) rfl dX5_init_65 ?_
  refine va_alen (v := 5) hx hb hK.1 (tk_one hat_K) 0 3 rfl rfl rfl dX5_init_68 ?_
  refine lv_icmp_ge (tgt := 91) hx hb dX5_init_69 (by decide) (fun c9 => absurd c9 (by decide)) (fun _ => ?_)
  refine lv_aload_n hx hb dX5_init_72 rfl (lv_at hl 1 rfl) ?_
  refine va_get (ci := 5) (C := RX5) (T := TX5) (N := 11) hx hb htl inX5 hown hK.1 (tk_one hat_a0) 0 rfl rfl 2 (by decide) (htl _ mw_149) (fun _ h9 => h9) rfl dX5_init_73 ?_
  refine lv_iload_n hx hb dX5_init_76 rfl (lv_at hl 0 rfl) ?_
  refine rc_new (ci := 9) (fs := [.null, .null, .null, .null, .int 0, .int 0, .int 0, .int 0, .int 0, .int 0, .int 0]) (C := RX9) (T := TX9) (N := 11) hx hb htl inX9 tyX9 tyX9_ok hown (htl _ mw_148) (htl _ mw_75) (htl _ mw_76) hK hG hS rfl dfX9 (Nat.le_of_ble_eq_true rfl) (Nat.le_of_ble_eq_true rfl) dX5_init_77 (fun H hG hat_n oq hS => ?_)
  have hat_a0 : va_at D vwCl (a0, .inr (5, [.ref a1, .ref a2, .ref K, .int 0, .int 0, .ref (K + 1), .ref (K + 6), .ref (K + 15), .ref (K + 16), .int 0, .int 0])) H := hat_a0.kept (oq _ (by omega))
  have hat_K : va_at D vwCl (K, .inl (cy 3, 5, .inr (.inr (.inr (.inr (va_up (va_up (va_up (fun _ => none) (0 : Int32).toNatClampNeg (some (K + 17))) (1 : Int32).toNatClampNeg (some (K + 22))) (2 : Int32).toNatClampNeg (some (K + 27)))))))) H := hat_K.kept (oq _ (by omega))
  refine W.widen (k := 33) (n := 252) (Nat.le_of_ble_eq_true rfl) (Nat.le_of_ble_eq_true rfl) ?_
  have hG : rc_G D cy ld t ((K + 32) :: K :: a0 :: X) (K + 33) H := hG
  have hat_K32 : va_at D vwCl ((K + 32), .inr (9, [.null, .null, .null, .null, .int 0, .int 0, .int 0, .int 0, .int 0, .int 0, .int 0])) H := hat_n
  refine lv_dup hx hb dX5_init_80 rfl ?_
  have hXX := kc_X9 l D cy ld t (K :: a0 :: X) (K + 32) (K + 33) 13 ht32 hs33  (fun q hq => rc_nin (by omega) (rc_nin (by omega) (hX q (by omega))))
  refine rc_I (As := []) (rest := [.ref (K + 32), .int 3, .ref K]) (ci := 9) (n1 := (K + 37)) ⟨hx, hb, hml, hown, hts⟩ hK hG hat_K32 hS (fun q h9 => by show _ = _ ∨ _ ≤ _; omega) hXX ⟨callB_of 0 hts (wl_in mw_80) rfl rfl rfl (htl _ mw_76) (htl _ mw_157) hd_yX9_init ⟨(Nat.le_of_ble_eq_true rfl), (Nat.le_of_ble_eq_true rfl)⟩, rfl, htl _ mw_79⟩ rfl hl.1 rfl (Nat.le_of_ble_eq_true rfl) dX5_init_81 ⟨(Nat.le_of_ble_eq_true rfl), (Nat.le_of_ble_eq_true rfl)⟩ (fun H locs hG oq hS => ?_)
  have hat_a0 : va_at D vwCl (a0, .inr (5, [.ref a1, .ref a2, .ref K, .int 0, .int 0, .ref (K + 1), .ref (K + 6), .ref (K + 15), .ref (K + 16), .int 0, .int 0])) H := hat_a0.kept (oq _ (by omega) (by omega))
  have hat_K : va_at D vwCl (K, .inl (cy 3, 5, .inr (.inr (.inr (.inr (va_up (va_up (va_up (fun _ => none) (0 : Int32).toNatClampNeg (some (K + 17))) (1 : Int32).toNatClampNeg (some (K + 22))) (2 : Int32).toNatClampNeg (some (K + 27)))))))) H := hat_K.kept (oq _ (by omega) (by omega))
  refine W.widen (k := 37) (n := 278) (Nat.le_of_ble_eq_true rfl) (Nat.le_of_ble_eq_true rfl) ?_
  have hG : rc_G D cy ld t (K :: a0 :: X) (K + 37) H := hG
  obtain ⟨fs9, hv9, -⟩ := hG.obj (ci := 9) ht32 (by decide) (by omega) (rc_nin (by omega) ( rc_nin (by omega) (hX _ (by omega))))
  refine rc_aast (ci := 9) (r := (RX9, TX9, 11)) hx hb hK 3 hat_K rfl hv9 rfl (fx_in (by decide)) dX5_init_84 (fun H j9 hat_n z9 oq => ?_)
  have hS := hS.put (k := j9) z9 oq (by show _ = _ ∨ _ ≤ _; omega)
  have hat_a0 : va_at D vwCl (a0, .inr (5, [.ref a1, .ref a2, .ref K, .int 0, .int 0, .ref (K + 1), .ref (K + 6), .ref (K + 15), .ref (K + 16), .int 0, .int 0])) H := hat_a0.kept (oq _ (by omega))
  have hat_K : va_at D vwCl (K, .inl (cy 3, 5, .inr (.inr (.inr (.inr (va_up (va_up (va_up (va_up (fun _ => none) (0 : Int32).toNatClampNeg (some (K + 17))) (1 : Int32).toNatClampNeg (some (K + 22))) (2 : Int32).toNatClampNeg (some (K + 27))) (3 : Int32).toNatClampNeg (some (K + 32)))))))) H := hat_n
  have hG : rc_G D cy ld t (K :: a0 :: X) (K + 37) H := hG.ajar (by simp) z9 oq
  refine lv_iinc (v := 4) (lv' := [(3, .int 4), (0, .ref a0), (1, .ref a1), (2, .ref a2)]) hx hb dX5_init_85 hl (k := 0) rfl (by decide) (by decide) rfl (fun ls hl => ?_)
  refine lv_goto (tgt := 63) hx hb dX5_init_88 (by decide) ?_
  refine lv_iload_n hx hb dX5_init_63 rfl (lv_at hl 0 rfl) ?_
  refine lv_aload_n hx hb dX5_init_64 rfl (lv_at hl 1 rfl) ?_
  refine va_get (ci := 5) (C := RX5) (T := TX5) (N := 11) hx hb htl inX5 hown hK.1 (tk_one hat_a0) 0 rfl rfl 2 (by decide) (htl _ mw_149) (fun _ h9 => h9) rfl dX5_init_65 ?_
  refine va_alen (v := 5) hx hb hK.1 (tk_one hat_K) 0 3 rfl rfl rfl dX5_init_68 ?_
  refine lv_icmp_ge (tgt := 91) hx hb dX5_init_69 (by decide) (fun c9 => absurd c9 (by decide)) (fun _ => ?_)
  refine lv_aload_n hx hb dX5_init_72 rfl (lv_at hl 1 rfl) ?_
  refine va_get (ci := 5) (C := RX5) (T := TX5) (N := 11) hx hb htl inX5 hown hK.1 (tk_one hat_a0) 0 rfl rfl 2 (by decide) (htl _ mw_149) (fun _ h9 => h9) rfl dX5_init_73 ?_
  refine lv_iload_n hx hb dX5_init_76 rfl (lv_at hl 0 rfl) ?_
  refine rc_new (ci := 9) (fs := [.null, .null, .null, .null, .int 0, .int 0, .int 0, .int 0, .int 0, .int 0, .int 0]) (C := RX9) (T := TX9) (N := 11) hx hb htl inX9 tyX9 tyX9_ok hown (htl _ mw_148) (htl _ mw_75) (htl _ mw_76) hK hG hS rfl dfX9 (Nat.le_of_ble_eq_true rfl) (Nat.le_of_ble_eq_true rfl) dX5_init_77 (fun H hG hat_n oq hS => ?_)
  have hat_a0 : va_at D vwCl (a0, .inr (5, [.ref a1, .ref a2, .ref K, .int 0, .int 0, .ref (K + 1), .ref (K + 6), .ref (K + 15), .ref (K + 16), .int 0, .int 0])) H := hat_a0.kept (oq _ (by omega))
  have hat_K : va_at D vwCl (K, .inl (cy 3, 5, .inr (.inr (.inr (.inr (va_up (va_up (va_up (va_up (fun _ => none) (0 : Int32).toNatClampNeg (some (K + 17))) (1 : Int32).toNatClampNeg (some (K + 22))) (2 : Int32).toNatClampNeg (some (K + 27))) (3 : Int32).toNatClampNeg (some (K + 32)))))))) H := hat_K.kept (oq _ (by omega))
  refine W.widen (k := 38) (n := 289) (Nat.le_of_ble_eq_true rfl) (Nat.le_of_ble_eq_true rfl) ?_
  have hG : rc_G D cy ld t ((K + 37) :: K :: a0 :: X) (K + 38) H := hG
  have hat_K37 : va_at D vwCl ((K + 37), .inr (9, [.null, .null, .null, .null, .int 0, .int 0, .int 0, .int 0, .int 0, .int 0, .int 0])) H := hat_n
  refine lv_dup hx hb dX5_init_80 rfl ?_
  have hXX := kc_X9 l D cy ld t (K :: a0 :: X) (K + 37) (K + 38) 14 ht37 hs38  (fun q hq => rc_nin (by omega) (rc_nin (by omega) (hX q (by omega))))
  refine rc_I (As := []) (rest := [.ref (K + 37), .int 4, .ref K]) (ci := 9) (n1 := (K + 42)) ⟨hx, hb, hml, hown, hts⟩ hK hG hat_K37 hS (fun q h9 => by show _ = _ ∨ _ ≤ _; omega) hXX ⟨callB_of 0 hts (wl_in mw_80) rfl rfl rfl (htl _ mw_76) (htl _ mw_157) hd_yX9_init ⟨(Nat.le_of_ble_eq_true rfl), (Nat.le_of_ble_eq_true rfl)⟩, rfl, htl _ mw_79⟩ rfl hl.1 rfl (Nat.le_of_ble_eq_true rfl) dX5_init_81 ⟨(Nat.le_of_ble_eq_true rfl), (Nat.le_of_ble_eq_true rfl)⟩ (fun H locs hG oq hS => ?_)
  have hat_a0 : va_at D vwCl (a0, .inr (5, [.ref a1, .ref a2, .ref K, .int 0, .int 0, .ref (K + 1), .ref (K + 6), .ref (K + 15), .ref (K + 16), .int 0, .int 0])) H := hat_a0.kept (oq _ (by omega) (by omega))
  have hat_K : va_at D vwCl (K, .inl (cy 3, 5, .inr (.inr (.inr (.inr (va_up (va_up (va_up (va_up (fun _ => none) (0 : Int32).toNatClampNeg (some (K + 17))) (1 : Int32).toNatClampNeg (some (K + 22))) (2 : Int32).toNatClampNeg (some (K + 27))) (3 : Int32).toNatClampNeg (some (K + 32)))))))) H := hat_K.kept (oq _ (by omega) (by omega))
  refine W.widen (k := 42) (n := 315) (Nat.le_of_ble_eq_true rfl) (Nat.le_of_ble_eq_true rfl) ?_
  have hG : rc_G D cy ld t (K :: a0 :: X) (K + 42) H := hG
  obtain ⟨fs9, hv9, -⟩ := hG.obj (ci := 9) ht37 (by decide) (by omega) (rc_nin (by omega) ( rc_nin (by omega) (hX _ (by omega))))
  refine rc_aast (ci := 9) (r := (RX9, TX9, 11)) hx hb hK 3 hat_K rfl hv9 rfl (fx_in (by decide)) dX5_init_84 (fun H j9 hat_n z9 oq => ?_)
  have hS := hS.put (k := j9) z9 oq (by show _ = _ ∨ _ ≤ _; omega)
  have hat_a0 : va_at D vwCl (a0, .inr (5, [.ref a1, .ref a2, .ref K, .int 0, .int 0, .ref (K + 1), .ref (K + 6), .ref (K + 15), .ref (K + 16), .int 0, .int 0])) H := hat_a0.kept (oq _ (by omega))
  have hat_K : va_at D vwCl (K, .inl (cy 3, 5, .inr (.inr (.inr (.inr (va_up (va_up (va_up (va_up (va_up (fun _ => none) (0 : Int32).toNatClampNeg (some (K + 17))) (1 : Int32).toNatClampNeg (some (K + 22))) (2 : Int32).toNatClampNeg (some (K + 27))) (3 : Int32).toNatClampNeg (some (K + 32))) (4 : Int32).toNatClampNeg (some (K + 37)))))))) H := hat_n
  have hG : rc_G D cy ld t (K :: a0 :: X) (K + 42) H := hG.ajar (by simp) z9 oq
  refine lv_iinc (v := 5) (lv' := [(3, .int 5), (0, .ref a0), (1, .ref a1), (2, .ref a2)]) hx hb dX5_init_85 hl (k := 0) rfl (by decide) (by decide) rfl (fun ls hl => ?_)
  refine lv_goto (tgt := 63) hx hb dX5_init_88 (by decide) ?_
  refine lv_iload_n hx hb dX5_init_63 rfl (lv_at hl 0 rfl) ?_
  refine lv_aload_n hx hb dX5_init_64 rfl (lv_at hl 1 rfl) ?_
  refine va_get (ci := 5) (C := RX5) (T := TX5) (N := 11) hx hb htl inX5 hown hK.1 (tk_one hat_a0) 0 rfl rfl 2 (by decide) (htl _ mw_149) (fun _ h9 => h9) rfl dX5_init_65 ?_
  refine va_alen (v := 5) hx hb hK.1 (tk_one hat_K) 0 3 rfl rfl rfl dX5_init_68 ?_
  refine lv_icmp_ge (tgt := 91) hx hb dX5_init_69 (by decide) (fun _ => ?_) (fun c9 => absurd (by decide) c9)
  have hrow9 : ∀ j : Nat, j < 5 → tk_R ld t 26 0 j ((va_up (va_up (va_up (va_up (va_up (fun _ => none) (0 : Int32).toNatClampNeg (some (K + 17))) (1 : Int32).toNatClampNeg (some (K + 22))) (2 : Int32).toNatClampNeg (some (K + 27))) (3 : Int32).toNatClampNeg (some (K + 32))) (4 : Int32).toNatClampNeg (some (K + 37))) j) := fun j hj => by
      match j, hj with
      | 0, _ => exact ⟨congrArg some hl17.symm, (congrArg t hl17).trans ht17⟩
      | 1, _ => exact ⟨congrArg some hl22.symm, (congrArg t hl22).trans ht22⟩
      | 2, _ => exact ⟨congrArg some hl27.symm, (congrArg t hl27).trans ht27⟩
      | 3, _ => exact ⟨congrArg some hl32.symm, (congrArg t hl32).trans ht32⟩
      | 4, _ => exact ⟨congrArg some hl37.symm, (congrArg t hl37).trans ht37⟩
      | j + 5, h => exact absurd h (by omega)
  have hG : rc_G D cy ld t (a0 :: X) (K + 42) H := rc_G.close hG hat_K ht0 (rc_arrQ (c := 0) (by decide) (by decide) hrow9)
  have hG : rc_G D cy ld t X (K + 42) H := hG.close hat_a0 ht_a0 (rc_obj (ci := 5) (by decide) rfl (fun j sp hj => by
      match j, hj with
      | 0, hj => cases hj; exact ⟨_, rfl, congrArg Value.ref hl_20.symm, (congrArg t hl_20).trans ht_a1⟩
      | 1, hj => cases hj; exact ⟨_, rfl, _, rfl, ht_a2⟩
      | 2, hj => cases hj; exact ⟨_, rfl, _, rfl, ht0⟩
      | 3, hj => cases hj; exact ⟨_, rfl, _, rfl, by decide, by decide⟩
      | 4, hj => cases hj; exact ⟨_, rfl, _, rfl, by decide, by decide⟩
      | 5, hj => cases hj; exact ⟨_, rfl, congrArg Value.ref hl1.symm, (congrArg t hl1).trans ht1⟩
      | 6, hj => cases hj; exact ⟨_, rfl, _, rfl, ht6⟩
      | 7, hj => cases hj; exact ⟨_, rfl, _, rfl, ht15⟩
      | 8, hj => cases hj; exact ⟨_, rfl, _, rfl, ht16⟩
      | 9, hj => cases hj; exact ⟨_, rfl, _, rfl, by decide, by decide⟩
      | 10, hj => cases hj; exact ⟨_, rfl, _, rfl, by decide, by decide⟩
      | j + 11, hj => simp [tk_F] at hj) trivial)
  exact rc_vret hx hb hr hlocks hG hS dX5_init_91
