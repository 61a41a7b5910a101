def rH9 (ld : Nat → Nat) (t : tk_T) (K r : Nat) : Prop := t K = (20, 8, r) ∧ t (K + 1) = (20, 8, r) ∧ t (K + 2) = (20, 8, r) ∧ t (K + 3) = (20, 2, r)
def rH2 (ld : Nat → Nat) (t : tk_T) (K r : Nat) : Prop := t K = (20, 8, r) ∧ t (K + 1) = (21, 8, r) ∧ t (K + 2) = (32, 8, r) ∧ t (K + 3) = (33, 10, r) ∧ t (K + 4) = (34, 10, r) ∧ t (K + 5) = (35, 10, r) ∧ t (K + 6) = (36, 10, r) ∧ t (K + 7) = (37, 10, r) ∧ t (K + 8) = (24, 40, r) ∧ t (K + 9) = (28, 6, r) ∧ t (K + 10) = (10, 0, r) ∧ rH9 ld t (K + 11) r ∧ ld (70 + r) = (K + 2) ∧ ld (80 + r) = (K + 3) ∧ ld (90 + r) = (K + 4) ∧ ld (100 + r) = (K + 5) ∧ ld (110 + r) = (K + 6) ∧ ld (120 + r) = (K + 7) ∧ ld (40 + r) = (K + 10)
def rH11 (ld : Nat → Nat) (t : tk_T) (K : Nat) : Prop := t K = (20, 15, 0) ∧ t (K + 1) = (20, 32, 0)
def rH8 (ld : Nat → Nat) (t : tk_T) (K : Nat) : Prop := t K = (12, 0, 0) ∧ rH11 ld t (K + 1)
def rH7 (ld : Nat → Nat) (t : tk_T) (K : Nat) : Prop := t K = (20, 512, 0) ∧ t (K + 1) = (20, 512, 0) ∧ t (K + 2) = (20, 12, 0) ∧ t (K + 3) = (23, 12, 0) ∧ t (K + 4) = (20, 12, 0) ∧ t (K + 5) = (20, 36, 0)
def rH6 (ld : Nat → Nat) (t : tk_T) (K : Nat) : Prop := t K = (8, 512, 12) ∧ rH7 ld t (K + 1)
def rH3 (ld : Nat → Nat) (t : tk_T) (K : Nat) : Prop := t K = (22, 4, 0) ∧ t (K + 1) = (20, 4, 0)
def rH10 (ld : Nat → Nat) (t : tk_T) (K : Nat) : Prop := t K = (20, 1000, 0)
def rH0 (ld : Nat → Nat) (t : tk_T) (K : Nat) : Prop := t K = (10, 0, 5) ∧ rH9 ld t (K + 1) 5 ∧ t (K + 5) = (20, 8, 0) ∧ t (K + 6) = (22, 10, 0) ∧ ld (22) = K
def rH1 (ld : Nat → Nat) (t : tk_T) (K : Nat) : Prop := t K = (25, 16, 1) ∧ t (K + 1) = (20, 16, 0) ∧ t (K + 2) = (10, 0, 2) ∧ rH9 ld t (K + 3) 2 ∧ t (K + 7) = (25, 16, 3) ∧ t (K + 8) = (20, 16, 0) ∧ t (K + 9) = (10, 0, 1) ∧ rH9 ld t (K + 10) 1 ∧ t (K + 14) = (10, 0, 3) ∧ rH9 ld t (K + 15) 3 ∧ t (K + 19) = (10, 0, 1) ∧ rH9 ld t (K + 20) 1 ∧ t (K + 24) = (10, 0, 3) ∧ rH9 ld t (K + 25) 3 ∧ t (K + 29) = (10, 0, 1) ∧ rH9 ld t (K + 30) 1 ∧ t (K + 34) = (10, 0, 3) ∧ rH9 ld t (K + 35) 3 ∧ t (K + 39) = (10, 0, 1) ∧ rH9 ld t (K + 40) 1 ∧ t (K + 44) = (10, 0, 3) ∧ rH9 ld t (K + 45) 3 ∧ t (K + 49) = (10, 0, 1) ∧ rH9 ld t (K + 50) 1 ∧ t (K + 54) = (10, 0, 3) ∧ rH9 ld t (K + 55) 3 ∧ t (K + 59) = (10, 0, 1) ∧ rH9 ld t (K + 60) 1 ∧ t (K + 64) = (10, 0, 3) ∧ rH9 ld t (K + 65) 3 ∧ t (K + 69) = (10, 0, 1) ∧ rH9 ld t (K + 70) 1 ∧ t (K + 74) = (10, 0, 3) ∧ rH9 ld t (K + 75) 3 ∧ t (K + 79) = (10, 0, 1) ∧ rH9 ld t (K + 80) 1 ∧ t (K + 84) = (10, 0, 3) ∧ rH9 ld t (K + 85) 3 ∧ t (K + 89) = (10, 0, 1) ∧ rH9 ld t (K + 90) 1 ∧ t (K + 94) = (10, 0, 3) ∧ rH9 ld t (K + 95) 3 ∧ t (K + 99) = (10, 0, 1) ∧ rH9 ld t (K + 100) 1 ∧ t (K + 104) = (10, 0, 3) ∧ rH9 ld t (K + 105) 3 ∧ t (K + 109) = (10, 0, 1) ∧ rH9 ld t (K + 110) 1 ∧ t (K + 114) = (10, 0, 3) ∧ rH9 ld t (K + 115) 3 ∧ t (K + 119) = (10, 0, 1) ∧ rH9 ld t (K + 120) 1 ∧ t (K + 124) = (10, 0, 3) ∧ rH9 ld t (K + 125) 3 ∧ t (K + 129) = (10, 0, 1) ∧ rH9 ld t (K + 130) 1 ∧ t (K + 134) = (10, 0, 3) ∧ rH9 ld t (K + 135) 3 ∧ t (K + 139) = (10, 0, 1) ∧ rH9 ld t (K + 140) 1 ∧ t (K + 144) = (10, 0, 3) ∧ rH9 ld t (K + 145) 3 ∧ t (K + 149) = (10, 0, 1) ∧ rH9 ld t (K + 150) 1 ∧ t (K + 154) = (10, 0, 3) ∧ rH9 ld t (K + 155) 3 ∧ t (K + 159) = (10, 0, 1) ∧ rH9 ld t (K + 160) 1 ∧ t (K + 164) = (10, 0, 3) ∧ rH9 ld t (K + 165) 3
def rH5 (ld : Nat → Nat) (t : tk_T) (K : Nat) : Prop := t K = (26, 5, 0) ∧ t (K + 1) = (10, 0, 4) ∧ rH9 ld t (K + 2) 4 ∧ t (K + 6) = (30, 8, 0) ∧ (∀ j : Nat, j < 8 → t ((K + 6) + 1 + j) = (20, 8, 0)) ∧ t (K + 15) = (20, 8, 0) ∧ t (K + 16) = (20, 8, 0) ∧ t (K + 17) = (10, 0, 10) ∧ rH9 ld t (K + 18) 10 ∧ t (K + 22) = (10, 0, 11) ∧ rH9 ld t (K + 23) 11 ∧ t (K + 27) = (10, 0, 12) ∧ rH9 ld t (K + 28) 12 ∧ t (K + 32) = (10, 0, 13) ∧ rH9 ld t (K + 33) 13 ∧ t (K + 37) = (10, 0, 14) ∧ rH9 ld t (K + 38) 14 ∧ ld (21) = (K + 1) ∧ ld (30) = (K + 17) ∧ ld (31) = (K + 22) ∧ ld (32) = (K + 27) ∧ ld (33) = (K + 32) ∧ ld (34) = (K + 37)
def rH12 (ld : Nat → Nat) (t : tk_T) (K : Nat) : Prop := t K = (3, 0, 0) ∧ rH2 ld t (K + 1) 0 ∧ t (K + 16) = (27, 2, 0) ∧ t (K + 17) = (3, 0, 6) ∧ rH2 ld t (K + 18) 6 ∧ t (K + 33) = (3, 0, 7) ∧ rH2 ld t (K + 34) 7 ∧ t (K + 49) = (29, 2, 0) ∧ t (K + 50) = (9, 0, 0) ∧ rH8 ld t (K + 51) ∧ t (K + 54) = (2, 0, 0) ∧ rH1 ld t (K + 55) ∧ t (K + 224) = (5, 0, 0) ∧ t (K + 225) = (20, 400, 9) ∧ t (K + 226) = (7, 0, 0) ∧ rH6 ld t (K + 227) ∧ t (K + 234) = (6, 0, 0) ∧ rH5 ld t (K + 235) ∧ t (K + 277) = (1, 0, 0) ∧ rH0 ld t (K + 278) ∧ t (K + 285) = (4, 0, 0) ∧ rH3 ld t (K + 286) ∧ t (K + 288) = (11, 0, 0) ∧ rH10 ld t (K + 289) ∧ t (K + 290) = (20, 5, 0) ∧ ld (20) = K ∧ ld (24) = (K + 17) ∧ ld (25) = (K + 33) ∧ ld (49) = (K + 49) ∧ ld (26) = (K + 225)
theorem dfX0 : ∀ j, j < 7 → defaultValue (tyX0 j) = vp_V [.null, .null, .int 0, .null, .null, .null, .int 0] j := by decide +kernel
theorem dfX1 : ∀ j, j < 11 → defaultValue (tyX1 j) = vp_V [.int 0, .null, .null, .null, .null, .int 0, .null, .null, .null, .int 0, .int 0] j := by decide +kernel
theorem dfX2 : ∀ j, j < 20 → defaultValue (tyX2 j) = vp_V [.int 0, .null, .null, .null, .int 0, .null, .null, .int 0, .null, .null, .null, .int 0, .null, .int 0, .null, .int 0, .int 0, .int 0, .int 0, .null] j := by decide +kernel
theorem dfX3 : ∀ j, j < 5 → defaultValue (tyX3 j) = vp_V [.null, .null, .null, .int 0, .int 0] j := by decide +kernel
theorem dfX4 : ∀ j, j < 6 → defaultValue (tyX4 j) = vp_V [.int 0, .null, .null, .null, .int 0, .int 0] j := by decide +kernel
theorem dfX5 : ∀ j, j < 11 → defaultValue (tyX5 j) = vp_V [.null, .null, .null, .int 0, .int 0, .null, .null, .null, .null, .int 0, .int 0] j := by decide +kernel
theorem dfX6 : ∀ j, j < 11 → defaultValue (tyX6 j) = vp_V [.null, .null, .int 0, .int 0, .int 0, .int 0, .int 0, .int 0, .int 0, .int 0, .int 0] j := by decide +kernel
theorem dfX8 : ∀ j, j < 3 → defaultValue (tyX8 j) = vp_V [.null, .null, .int 0] j := by decide +kernel
theorem dfX9 : ∀ j, j < 11 → defaultValue (tyX9 j) = vp_V [.null, .null, .null, .null, .int 0, .int 0, .int 0, .int 0, .int 0, .int 0, .int 0] j := by decide +kernel
theorem dfX10 : ∀ j, j < 3 → defaultValue (tyX10 j) = vp_V [.null, .null, .null] j := by decide +kernel
theorem dfX11 : ∀ j, j < 3 → defaultValue (tyX11 j) = vp_V [.null, .int 0, .null] j := by decide +kernel
theorem hd_yX9_init : yX9_init.cls ≠ "java/lang/invoke/MethodHandle" ∧ yX9_init.cls ≠ "java/lang/invoke/VarHandle" ∧ (parseMethodDescriptor yX9_init.desc).map (fun d => d.parameters.length) = some 0 := by decide +kernel
theorem hd_yX11_init : yX11_init.cls ≠ "java/lang/invoke/MethodHandle" ∧ yX11_init.cls ≠ "java/lang/invoke/VarHandle" ∧ (parseMethodDescriptor yX11_init.desc).map (fun d => d.parameters.length) = some 0 := by decide +kernel
theorem hd_yX7_init : yX7_init.cls ≠ "java/lang/invoke/MethodHandle" ∧ yX7_init.cls ≠ "java/lang/invoke/VarHandle" ∧ (parseMethodDescriptor yX7_init.desc).map (fun d => d.parameters.length) = some 2 := by decide +kernel
theorem hd_yX2_init : yX2_init.cls ≠ "java/lang/invoke/MethodHandle" ∧ yX2_init.cls ≠ "java/lang/invoke/VarHandle" ∧ (parseMethodDescriptor yX2_init.desc).map (fun d => d.parameters.length) = some 0 := by decide +kernel
theorem hd_yX8_init : yX8_init.cls ≠ "java/lang/invoke/MethodHandle" ∧ yX8_init.cls ≠ "java/lang/invoke/VarHandle" ∧ (parseMethodDescriptor yX8_init.desc).map (fun d => d.parameters.length) = some 1 := by decide +kernel
theorem hd_yX1_init : yX1_init.cls ≠ "java/lang/invoke/MethodHandle" ∧ yX1_init.cls ≠ "java/lang/invoke/VarHandle" ∧ (parseMethodDescriptor yX1_init.desc).map (fun d => d.parameters.length) = some 2 := by decide +kernel
theorem hd_yX4_init : yX4_init.cls ≠ "java/lang/invoke/MethodHandle" ∧ yX4_init.cls ≠ "java/lang/invoke/VarHandle" ∧ (parseMethodDescriptor yX4_init.desc).map (fun d => d.parameters.length) = some 3 := by decide +kernel
theorem hd_yX6_init : yX6_init.cls ≠ "java/lang/invoke/MethodHandle" ∧ yX6_init.cls ≠ "java/lang/invoke/VarHandle" ∧ (parseMethodDescriptor yX6_init.desc).map (fun d => d.parameters.length) = some 1 := by decide +kernel
theorem hd_yX5_init : yX5_init.cls ≠ "java/lang/invoke/MethodHandle" ∧ yX5_init.cls ≠ "java/lang/invoke/VarHandle" ∧ (parseMethodDescriptor yX5_init.desc).map (fun d => d.parameters.length) = some 2 := by decide +kernel
theorem hd_yX0_init : yX0_init.cls ≠ "java/lang/invoke/MethodHandle" ∧ yX0_init.cls ≠ "java/lang/invoke/VarHandle" ∧ (parseMethodDescriptor yX0_init.desc).map (fun d => d.parameters.length) = some 2 := by decide +kernel
theorem hd_yX3_init : yX3_init.cls ≠ "java/lang/invoke/MethodHandle" ∧ yX3_init.cls ≠ "java/lang/invoke/VarHandle" ∧ (parseMethodDescriptor yX3_init.desc).map (fun d => d.parameters.length) = some 1 := by decide +kernel
theorem hd_yX10_init : yX10_init.cls ≠ "java/lang/invoke/MethodHandle" ∧ yX10_init.cls ≠ "java/lang/invoke/VarHandle" ∧ (parseMethodDescriptor yX10_init.desc).map (fun d => d.parameters.length) = some 2 := by decide +kernel
theorem dX9_init_0 : decode cX9_init 0 = .ok (.aload_n 0, 1) := by decide +kernel
theorem dX9_init_1 : decode cX9_init 1 = .ok (.invokespecial 3, 3) := by decide +kernel
theorem dX9_init_4 : decode cX9_init 4 = .ok (.aload_n 0, 1) := by decide +kernel
theorem dX9_init_5 : decode cX9_init 5 = .ok (.bipush 8, 2) := by decide +kernel
theorem dX9_init_7 : decode cX9_init 7 = .ok (.newarray .int, 2) := by decide +kernel
theorem dX9_init_9 : decode cX9_init 9 = .ok (.putfield 9, 3) := by decide +kernel
theorem dX9_init_12 : decode cX9_init 12 = .ok (.aload_n 0, 1) := by decide +kernel
theorem dX9_init_13 : decode cX9_init 13 = .ok (.bipush 8, 2) := by decide +kernel
theorem dX9_init_15 : decode cX9_init 15 = .ok (.newarray .int, 2) := by decide +kernel
theorem dX9_init_17 : decode cX9_init 17 = .ok (.putfield 15, 3) := by decide +kernel
theorem dX9_init_20 : decode cX9_init 20 = .ok (.aload_n 0, 1) := by decide +kernel
theorem dX9_init_21 : decode cX9_init 21 = .ok (.bipush 8, 2) := by decide +kernel
theorem dX9_init_23 : decode cX9_init 23 = .ok (.newarray .int, 2) := by decide +kernel
theorem dX9_init_25 : decode cX9_init 25 = .ok (.putfield 18, 3) := by decide +kernel
theorem dX9_init_28 : decode cX9_init 28 = .ok (.aload_n 0, 1) := by decide +kernel
theorem dX9_init_29 : decode cX9_init 29 = .ok (.iconst 2, 1) := by decide +kernel
theorem dX9_init_30 : decode cX9_init 30 = .ok (.newarray .int, 2) := by decide +kernel
theorem dX9_init_32 : decode cX9_init 32 = .ok (.dup, 1) := by decide +kernel
theorem dX9_init_33 : decode cX9_init 33 = .ok (.iconst 0, 1) := by decide +kernel
theorem dX9_init_34 : decode cX9_init 34 = .ok (.bipush 100, 2) := by decide +kernel
theorem dX9_init_36 : decode cX9_init 36 = .ok (.iastore, 1) := by decide +kernel
theorem dX9_init_37 : decode cX9_init 37 = .ok (.dup, 1) := by decide +kernel
theorem dX9_init_38 : decode cX9_init 38 = .ok (.iconst 1, 1) := by decide +kernel
theorem dX9_init_39 : decode cX9_init 39 = .ok (.bipush 100, 2) := by decide +kernel
theorem dX9_init_41 : decode cX9_init 41 = .ok (.iastore, 1) := by decide +kernel
theorem dX9_init_42 : decode cX9_init 42 = .ok (.putfield 21, 3) := by decide +kernel
theorem dX9_init_45 : decode cX9_init 45 = .ok (.aload_n 0, 1) := by decide +kernel
theorem dX9_init_46 : decode cX9_init 46 = .ok (.iconst (-1), 1) := by decide +kernel
theorem dX9_init_47 : decode cX9_init 47 = .ok (.putfield 24, 3) := by decide +kernel
theorem dX9_init_50 : decode cX9_init 50 = .ok (.aload_n 0, 1) := by decide +kernel
theorem dX9_init_51 : decode cX9_init 51 = .ok (.iconst (-1), 1) := by decide +kernel
theorem dX9_init_52 : decode cX9_init 52 = .ok (.putfield 28, 3) := by decide +kernel
theorem dX9_init_55 : decode cX9_init 55 = .ok (.aload_n 0, 1) := by decide +kernel
theorem dX9_init_56 : decode cX9_init 56 = .ok (.iconst (-1), 1) := by decide +kernel
theorem dX9_init_57 : decode cX9_init 57 = .ok (.putfield 31, 3) := by decide +kernel
theorem dX9_init_60 : decode cX9_init 60 = .ok (.return_, 1) := by decide +kernel
set_option maxHeartbeats 8000000 in
set_option maxRecDepth 100000 in
theorem kc_X9 (l : Launch) (D : va_G) (cy : Nat → ClassId) (ld : Nat → Nat) (t : tk_T) (X : List Nat) (a0 K r : Nat) (ht_a0 : t a0 = (10, 0, r)) (hH : rH9 ld t K r) (hX : ∀ q : Nat, a0 ≤ q → q ∉ X) : Met l yX9_init (wl yX9_init cX9_init 1 none) ({ frames := 3, cells := 4, slots := 26, locals := 140 }) (rcp D cy ld t X [.ref a0] a0 9 [.null, .null, .null, .null, .int 0, .int 0, .int 0, .int 0, .int 0, .int 0, .int 0] K) (rcq D cy ld t X a0 K (K + 4)) 4 26 (fun q => q = a0 ∨ K ≤ q) := by
  refine rc_met (y := yX9_init) (cc := cX9_init) (maxL := 1) (ret := none) (av := [.ref a0]) _ (by decide) (Nat.le_of_ble_eq_true rfl) ?_
  intro p e s m args below meth c hx hb hr hml hts htl hown hlocks hin hK H locs hbn hG hat_a0 hS ls hl
  have hown : s.vm.findClass RX9 = some m.cls := hown
  have hin : meth.name = "<init>" := hin
  have hl : lv_has ls 1 [(0, .ref a0)] := hl
  obtain ⟨ht0, ht1, ht2, ht3⟩ := hH
  refine lv_aload_n hx hb dX9_init_0 rfl (lv_at hl 0 rfl) ?_
  refine W.objInit hx hb hown (htl _ mw_81) (htl _ mw_10) (htl _ mw_11) rfl (by rw [hml]; exact hl.1) rfl dX9_init_1 (Nat.le_of_ble_eq_true rfl) (Nat.le_of_ble_eq_true rfl) ?_
  refine W.eq (g2 := F0 m 4 ls []) rfl ?_
  refine lv_aload_n hx hb dX9_init_4 rfl (lv_at hl 0 rfl) ?_
  refine lv_bipush (v := 8) hx hb dX9_init_5 (by decide) ?_
  refine rc_newa hx hb (htl _ mw_32) rfl hK hG hS 0 rfl (fun _ h => h) (a0 := (8, .inl (fun _ => 0))) (fun _ => rfl) (by decide) (by decide) (Nat.le_of_ble_eq_true rfl) (Nat.le_of_ble_eq_true rfl) (Nat.le_of_ble_eq_true rfl) dX9_init_7 (fun H hG hat_n oq hS => ?_)
  have hat_a0 : va_at D vwCl (a0, .inr (9, [.null, .null, .null, .null, .int 0, .int 0, .int 0, .int 0, .int 0, .int 0, .int 0])) H := hat_a0.kept (oq _ (by omega))
  refine W.widen (k := 1) (n := 8) (Nat.le_of_ble_eq_true rfl) (Nat.le_of_ble_eq_true rfl) ?_
  have hG : rc_G D cy ld t (a0 :: X) (K + 1) H := rc_G.close hG hat_n ht0 (rc_arr (by decide) (by decide) (fun j hj => trivial))
  refine rc_putF (ci := 9) (v := .ref K) (ty := .array (.int)) (C := RX9) (T := TX9) (N := 11) hx hb htl inX9 tyX9 tyX9_ok nmX9 hown hK hat_a0 rfl 0 (by decide) (htl _ mw_82) (fun _ h9 => h9) rfl hin rfl (tyX9_ok 0 (by decide)) rfl rfl (Nat.le_of_ble_eq_true rfl) dX9_init_9 (fun H j9 hat_n z9 oq => ?_)
  have hS := hS.put (k := j9) z9 oq (by show _ = _ ∨ _ ≤ _; omega)
  have hat_a0 : va_at D vwCl (a0, .inr (9, [.ref K, .null, .null, .null, .int 0, .int 0, .int 0, .int 0, .int 0, .int 0, .int 0])) H := hat_n
  have hG : rc_G D cy ld t (a0 :: X) (K + 1) H := hG.ajar (by simp) z9 oq
  refine lv_aload_n hx hb dX9_init_12 rfl (lv_at hl 0 rfl) ?_
  refine lv_bipush (v := 8) hx hb dX9_init_13 (by decide) ?_
  refine rc_newa hx hb (htl _ mw_32) rfl hK hG hS 0 rfl (fun _ h => h) (a0 := (8, .inl (fun _ => 0))) (fun _ => rfl) (by decide) (by decide) (Nat.le_of_ble_eq_true rfl) (Nat.le_of_ble_eq_true rfl) (Nat.le_of_ble_eq_true rfl) dX9_init_15 (fun H hG hat_n oq hS => ?_)
  have hat_a0 : va_at D vwCl (a0, .inr (9, [.ref K, .null, .null, .null, .int 0, .int 0, .int 0, .int 0, .int 0, .int 0, .int 0])) H := hat_a0.kept (oq _ (by omega))
  refine W.widen (k := 2) (n := 16) (Nat.le_of_ble_eq_true rfl) (Nat.le_of_ble_eq_true rfl) ?_
  have hG : rc_G D cy ld t (a0 :: X) (K + 2) H := rc_G.close hG hat_n ht1 (rc_arr (by decide) (by decide) (fun j hj => trivial))
  refine rc_putF (ci := 9) (v := .ref (K + 1)) (ty := .array (.int)) (C := RX9) (T := TX9) (N := 11) hx hb htl inX9 tyX9 tyX9_ok nmX9 hown hK hat_a0 rfl 1 (by decide) (htl _ mw_83) (fun _ h9 => h9) rfl hin rfl (tyX9_ok 1 (by decide)) rfl rfl (Nat.le_of_ble_eq_true rfl) dX9_init_17 (fun H j9 hat_n z9 oq => ?_)
  have hS := hS.put (k := j9) z9 oq (by show _ = _ ∨ _ ≤ _; omega)
  have hat_a0 : va_at D vwCl (a0, .inr (9, [.ref K, .ref (K + 1), .null, .null, .int 0, .int 0, .int 0, .int 0, .int 0, .int 0, .int 0])) H := hat_n
  have hG : rc_G D cy ld t (a0 :: X) (K + 2) H := hG.ajar (by simp) z9 oq
  refine lv_aload_n hx hb dX9_init_20 rfl (lv_at hl 0 rfl) ?_
  refine lv_bipush (v := 8) hx hb dX9_init_21 (by decide) ?_
  refine rc_newa hx hb (htl _ mw_32) rfl hK hG hS 0 rfl (fun _ h => h) (a0 := (8, .inl (fun _ => 0))) (fun _ => rfl) (by decide) (by decide) (Nat.le_of_ble_eq_true rfl) (Nat.le_of_ble_eq_true rfl) (Nat.le_of_ble_eq_true rfl) dX9_init_23 (fun H hG hat_n oq hS => ?_)
  have hat_a0 : va_at D vwCl (a0, .inr (9, [.ref K, .ref (K + 1), .null, .null, .int 0, .int 0, .int 0, .int 0, .int 0, .int 0, .int 0])) H := hat_a0.kept (oq _ (by omega))
  refine W.widen (k := 3) (n := 24) (Nat.le_of_ble_eq_true rfl) (Nat.le_of_ble_eq_true rfl) ?_
  have hG : rc_G D cy ld t (a0 :: X) (K + 3) H := rc_G.close hG hat_n ht2 (rc_arr (by decide) (by decide) (fun j hj => trivial))
  refine rc_putF (ci := 9) (v := .ref (K + 2)) (ty := .array (.int)) (C := RX9) (T := TX9) (N := 11) hx hb htl inX9 tyX9 tyX9_ok nmX9 hown hK hat_a0 rfl 2 (by decide) (htl _ mw_84) (fun _ h9 => h9) rfl hin rfl (tyX9_ok 2 (by decide)) rfl rfl (Nat.le_of_ble_eq_true rfl) dX9_init_25 (fun H j9 hat_n z9 oq => ?_)
  have hS := hS.put (k := j9) z9 oq (by show _ = _ ∨ _ ≤ _; omega)
  have hat_a0 : va_at D vwCl (a0, .inr (9, [.ref K, .ref (K + 1), .ref (K + 2), .null, .int 0, .int 0, .int 0, .int 0, .int 0, .int 0, .int 0])) H := hat_n
  have hG : rc_G D cy ld t (a0 :: X) (K + 3) H := hG.ajar (by simp) z9 oq
  refine lv_aload_n hx hb dX9_init_28 rfl (lv_at hl 0 rfl) ?_
  refine lv_iconst (v := 2) hx hb dX9_init_29 (by decide) ?_
  refine rc_newa hx hb (htl _ mw_32) rfl hK hG hS 0 rfl (fun _ h => h) (a0 := (2, .inl (fun _ => 0))) (fun _ => rfl) (by decide) (by decide) (Nat.le_of_ble_eq_true rfl) (Nat.le_of_ble_eq_true rfl) (Nat.le_of_ble_eq_true rfl) dX9_init_30 (fun H hG hat_n oq hS => ?_)
  have hat_a0 : va_at D vwCl (a0, .inr (9, [.ref K, .ref (K + 1), .ref (K + 2), .null, .int 0, .int 0, .int 0, .int 0, .int 0, .int 0, .int 0])) H := hat_a0.kept (oq _ (by omega))
  refine W.widen (k := 4) (n := 26) (Nat.le_of_ble_eq_true rfl) (Nat.le_of_ble_eq_true rfl) ?_
  have hG : rc_G D cy ld t ((K + 3) :: a0 :: X) (K + 4) H := hG
  have hat_K3 : va_at D vwCl ((K + 3), .inl (cy 0, 2, .inl (fun _ => 0))) H := hat_n
  refine lv_dup hx hb dX9_init_32 rfl ?_
  refine lv_iconst (v := 0) hx hb dX9_init_33 (by decide) ?_
  refine lv_bipush (v := 100) hx hb dX9_init_34 (by decide) ?_
  refine rc_iast hx hb hK hat_K3 (fx_in (by decide)) dX9_init_36 (fun H j9 hat_n z9 oq => ?_)
  have hS := hS.put (k := j9) z9 oq (by show _ = _ ∨ _ ≤ _; omega)
  have hat_a0 : va_at D vwCl (a0, .inr (9, [.ref K, .ref (K + 1), .ref (K + 2), .null, .int 0, .int 0, .int 0, .int 0, .int 0, .int 0, .int 0])) H := hat_a0.kept (oq _ (by omega))
  have hat_K3 : va_at D vwCl ((K + 3), .inl (cy 0, 2, .inl (upd (fun _ => 0) (0 : Int32).toNatClampNeg 100))) H := hat_n
  have hG : rc_G D cy ld t ((K + 3) :: a0 :: X) (K + 4) H := hG.ajar (List.mem_cons_self ..) z9 oq
  refine lv_dup hx hb dX9_init_37 rfl ?_
  refine lv_iconst (v := 1) hx hb dX9_init_38 (by decide) ?_
  refine lv_bipush (v := 100) hx hb dX9_init_39 (by decide) ?_
  refine rc_iast hx hb hK hat_K3 (fx_in (by decide)) dX9_init_41 (fun H j9 hat_n z9 oq => ?_)
  have hS := hS.put (k := j9) z9 oq (by show _ = _ ∨ _ ≤ _; omega)
  have hat_a0 : va_at D vwCl (a0, .inr (9, [.ref K, .ref (K + 1), .ref (K + 2), .null, .int 0, .int 0, .int 0, .int 0, .int 0, .int 0, .int 0])) H := hat_a0.kept (oq _ (by omega))
  have hat_K3 : va_at D vwCl ((K + 3), .inl (cy 0, 2, .inl (upd (upd (fun _ => 0) (0 : Int32).toNatClampNeg 100) (1 : Int32).toNatClampNeg 100))) H := hat_n
  have hG : rc_G D cy ld t ((K + 3) :: a0 :: X) (K + 4) H := hG.ajar (List.mem_cons_self ..) z9 oq
  have hG : rc_G D cy ld t (a0 :: X) (K + 4) H := rc_G.close hG hat_K3 ht3 (rc_arr (by decide) (by decide) (fun j hj => trivial))
  refine rc_putF (ci := 9) (v := .ref (K + 3)) (ty := .array (.int)) (C := RX9) (T := TX9) (N := 11) hx hb htl inX9 tyX9 tyX9_ok nmX9 hown hK hat_a0 rfl 3 (by decide) (htl _ mw_85) (fun _ h9 => h9) rfl hin rfl (tyX9_ok 3 (by decide)) rfl rfl (Nat.le_of_ble_eq_true rfl) dX9_init_42 (fun H j9 hat_n z9 oq => ?_)
  have hS := hS.put (k := j9) z9 oq (by show _ = _ ∨ _ ≤ _; omega)
  have hat_a0 : va_at D vwCl (a0, .inr (9, [.ref K, .ref (K + 1), .ref (K + 2), .ref (K + 3), .int 0, .int 0, .int 0, .int 0, .int 0, .int 0, .int 0])) H := hat_n
  have hG : rc_G D cy ld t (a0 :: X) (K + 4) H := hG.ajar (by simp) z9 oq
  refine lv_aload_n hx hb dX9_init_45 rfl (lv_at hl 0 rfl) ?_
  refine lv_iconst (v := (-1)) hx hb dX9_init_46 (by decide) ?_
  refine tk_put0 (ci := 9) (v := .int (-1)) (ty := .int) (C := RX9) (T := TX9) (N := 11) hx hb htl inX9 tyX9 tyX9_ok nmX9 hown hK hat_a0 rfl 5 (by decide) (htl _ mw_86) (fun _ h9 => h9) rfl (tyX9_ok 5 (by decide)) rfl rfl (Nat.le_of_ble_eq_true rfl) dX9_init_47 (fun H j9 hat_n z9 oq => ?_)
  have hS := hS.put (k := j9) z9 oq (by show _ = _ ∨ _ ≤ _; omega)
  have hat_a0 : va_at D vwCl (a0, .inr (9, [.ref K, .ref (K + 1), .ref (K + 2), .ref (K + 3), .int 0, .int (-1), .int 0, .int 0, .int 0, .int 0, .int 0])) H := hat_n
  have hG : rc_G D cy ld t (a0 :: X) (K + 4) H := hG.ajar (by simp) z9 oq
  refine lv_aload_n hx hb dX9_init_50 rfl (lv_at hl 0 rfl) ?_
  refine lv_iconst (v := (-1)) hx hb dX9_init_51 (by decide) ?_
  refine tk_put0 (ci := 9) (v := .int (-1)) (ty := .int) (C := RX9) (T := TX9) (N := 11) hx hb htl inX9 tyX9 tyX9_ok nmX9 hown hK hat_a0 rfl 6 (by decide) (htl _ mw_87) (fun _ h9 => h9) rfl (tyX9_ok 6 (by decide)) rfl rfl (Nat.le_of_ble_eq_true rfl) dX9_init_52 (fun H j9 hat_n z9 oq => ?_)
  have hS := hS.put (k := j9) z9 oq (by show _ = _ ∨ _ ≤ _; omega)
  have hat_a0 : va_at D vwCl (a0, .inr (9, [.ref K, .ref (K + 1), .ref (K + 2), .ref (K + 3), .int 0, .int (-1), .int (-1), .int 0, .int 0, .int 0, .int 0])) H := hat_n
  have hG : rc_G D cy ld t (a0 :: X) (K + 4) H := hG.ajar (by simp) z9 oq
  refine lv_aload_n hx hb dX9_init_55 rfl (lv_at hl 0 rfl) ?_
  refine lv_iconst (v := (-1)) hx hb dX9_init_56 (by decide) ?_
  refine tk_put0 (ci := 9) (v := .int (-1)) (ty := .int) (C := RX9) (T := TX9) (N := 11) hx hb htl inX9 tyX9 tyX9_ok nmX9 hown hK hat_a0 rfl 10 (by decide) (htl _ mw_88) (fun _ h9 => h9) rfl (tyX9_ok 10 (by decide)) rfl rfl (Nat.le_of_ble_eq_true rfl) dX9_init_57 (fun H j9 hat_n z9 oq => ?_)
  have hS := hS.put (k := j9) z9 oq (by show _ = _ ∨ _ ≤ _; omega)
  have hat_a0 : va_at D vwCl (a0, .inr (9, [.ref K, .ref (K + 1), .ref (K + 2), .ref (K + 3), .int 0, .int (-1), .int (-1), .int 0, .int 0, .int 0, .int (-1)])) H := hat_n
  have hG : rc_G D cy ld t (a0 :: X) (K + 4) H := hG.ajar (by simp) z9 oq
  have hG : rc_G D cy ld t X (K + 4) H := hG.close hat_a0 ht_a0 (rc_obj (ci := 9) (by decide) rfl (fun j sp hj => by
      match j, hj with
      | 0, hj => cases hj; exact ⟨_, rfl, _, rfl, ht0⟩
      | 1, hj => cases hj; exact ⟨_, rfl, _, rfl, ht1⟩
      | 2, hj => cases hj; exact ⟨_, rfl, _, rfl, ht2⟩
      | 3, hj => cases hj; exact ⟨_, rfl, _, rfl, ht3⟩
      | 4, hj => cases hj; exact ⟨_, rfl, _, rfl, by decide, by decide⟩
      | 5, hj => cases hj; exact ⟨_, rfl, _, rfl, by decide, by decide⟩
      | 6, hj => cases hj; exact ⟨_, rfl, _, rfl, by decide, by decide⟩
      | 7, hj => cases hj; exact ⟨_, rfl, _, rfl, by decide, by decide⟩
      | 8, hj => cases hj; exact ⟨_, rfl, _, rfl, by decide, by decide⟩
      | 9, hj => cases hj; exact ⟨_, rfl, _, rfl, by decide, by decide⟩
      | 10, hj => cases hj; exact ⟨_, rfl, _, rfl, by decide, by decide⟩
      | j + 11, hj => simp [tk_F] at hj) (fun x y h1 h2 h3 => absurd (by cases h1; decide) h3))
  exact rc_vret hx hb hr hlocks hG hS dX9_init_60
theorem dX2_init_0 : decode cX2_init 0 = .ok (.aload_n 0, 1) := by decide +kernel
theorem dX2_init_1 : decode cX2_init 1 = .ok (.invokespecial 3, 3) := by decide +kernel
theorem dX2_init_4 : decode cX2_init 4 = .ok (.aload_n 0, 1) := by decide +kernel
theorem dX2_init_5 : decode cX2_init 5 = .ok (.bipush 8, 2) := by decide +kernel
theorem dX2_init_7 : decode cX2_init 7 = .ok (.newarray .int, 2) := by decide +kernel
theorem dX2_init_9 : decode cX2_init 9 = .ok (.putfield 9, 3) := by decide +kernel
theorem dX2_init_12 : decode cX2_init 12 = .ok (.aload_n 0, 1) := by decide +kernel
theorem dX2_init_13 : decode cX2_init 13 = .ok (.bipush 8, 2) := by decide +kernel
theorem dX2_init_15 : decode cX2_init 15 = .ok (.newarray .int, 2) := by decide +kernel
theorem dX2_init_17 : decode cX2_init 17 = .ok (.putfield 15, 3) := by decide +kernel
theorem dX2_init_20 : decode cX2_init 20 = .ok (.aload_n 0, 1) := by decide +kernel
theorem dX2_init_21 : decode cX2_init 21 = .ok (.bipush 8, 2) := by decide +kernel
theorem dX2_init_23 : decode cX2_init 23 = .ok (.newarray .int, 2) := by decide +kernel
theorem dX2_init_25 : decode cX2_init 25 = .ok (.putfield 18, 3) := by decide +kernel
theorem dX2_init_28 : decode cX2_init 28 = .ok (.aload_n 0, 1) := by decide +kernel
theorem dX2_init_29 : decode cX2_init 29 = .ok (.bipush 10, 2) := by decide +kernel
theorem dX2_init_31 : decode cX2_init 31 = .ok (.newarray .int, 2) := by decide +kernel
theorem dX2_init_33 : decode cX2_init 33 = .ok (.putfield 21, 3) := by decide +kernel
theorem dX2_init_36 : decode cX2_init 36 = .ok (.aload_n 0, 1) := by decide +kernel
theorem dX2_init_37 : decode cX2_init 37 = .ok (.bipush 10, 2) := by decide +kernel
theorem dX2_init_39 : decode cX2_init 39 = .ok (.newarray .int, 2) := by decide +kernel
theorem dX2_init_41 : decode cX2_init 41 = .ok (.putfield 24, 3) := by decide +kernel
theorem dX2_init_44 : decode cX2_init 44 = .ok (.aload_n 0, 1) := by decide +kernel
theorem dX2_init_45 : decode cX2_init 45 = .ok (.bipush 10, 2) := by decide +kernel
theorem dX2_init_47 : decode cX2_init 47 = .ok (.newarray .int, 2) := by decide +kernel
theorem dX2_init_49 : decode cX2_init 49 = .ok (.putfield 27, 3) := by decide +kernel
theorem dX2_init_52 : decode cX2_init 52 = .ok (.aload_n 0, 1) := by decide +kernel
theorem dX2_init_53 : decode cX2_init 53 = .ok (.bipush 10, 2) := by decide +kernel
theorem dX2_init_55 : decode cX2_init 55 = .ok (.newarray .int, 2) := by decide +kernel
theorem dX2_init_57 : decode cX2_init 57 = .ok (.putfield 30, 3) := by decide +kernel
theorem dX2_init_60 : decode cX2_init 60 = .ok (.aload_n 0, 1) := by decide +kernel
theorem dX2_init_61 : decode cX2_init 61 = .ok (.bipush 10, 2) := by decide +kernel
theorem dX2_init_63 : decode cX2_init 63 = .ok (.newarray .int, 2) := by decide +kernel
theorem dX2_init_65 : decode cX2_init 65 = .ok (.putfield 33, 3) := by decide +kernel
theorem dX2_init_68 : decode cX2_init 68 = .ok (.aload_n 0, 1) := by decide +kernel
theorem dX2_init_69 : decode cX2_init 69 = .ok (.bipush 40, 2) := by decide +kernel
theorem dX2_init_71 : decode cX2_init 71 = .ok (.newarray .int, 2) := by decide +kernel
theorem dX2_init_73 : decode cX2_init 73 = .ok (.putfield 36, 3) := by decide +kernel
theorem dX2_init_76 : decode cX2_init 76 = .ok (.aload_n 0, 1) := by decide +kernel
theorem dX2_init_77 : decode cX2_init 77 = .ok (.bipush 6, 2) := by decide +kernel
theorem dX2_init_79 : decode cX2_init 79 = .ok (.anewarray 39, 3) := by decide +kernel
theorem dX2_init_82 : decode cX2_init 82 = .ok (.putfield 41, 3) := by decide +kernel
theorem dX2_init_85 : decode cX2_init 85 = .ok (.aload_n 0, 1) := by decide +kernel
theorem dX2_init_86 : decode cX2_init 86 = .ok (.iconst (-1), 1) := by decide +kernel
theorem dX2_init_87 : decode cX2_init 87 = .ok (.putfield 45, 3) := by decide +kernel
theorem dX2_init_90 : decode cX2_init 90 = .ok (.aload_n 0, 1) := by decide +kernel
theorem dX2_init_91 : decode cX2_init 91 = .ok (.bipush 30, 2) := by decide +kernel
theorem dX2_init_93 : decode cX2_init 93 = .ok (.putfield 49, 3) := by decide +kernel
theorem dX2_init_96 : decode cX2_init 96 = .ok (.aload_n 0, 1) := by decide +kernel
theorem dX2_init_97 : decode cX2_init 97 = .ok (.bipush 50, 2) := by decide +kernel
theorem dX2_init_99 : decode cX2_init 99 = .ok (.putfield 52, 3) := by decide +kernel
theorem dX2_init_102 : decode cX2_init 102 = .ok (.aload_n 0, 1) := by decide +kernel
theorem dX2_init_103 : decode cX2_init 103 = .ok (.new 55, 3) := by decide +kernel
theorem dX2_init_106 : decode cX2_init 106 = .ok (.dup, 1) := by decide +kernel
theorem dX2_init_107 : decode cX2_init 107 = .ok (.invokespecial 57, 3) := by decide +kernel
theorem dX2_init_110 : decode cX2_init 110 = .ok (.putfield 58, 3) := by decide +kernel
theorem dX2_init_113 : decode cX2_init 113 = .ok (.return_, 1) := by decide +kernel
set_option maxHeartbeats 8000000 in
set_option maxRecDepth 100000 in
theorem kc_X2 (l : Launch) (D : va_G) (cy : Nat → ClassId) (ld : Nat → Nat) (t : tk_T) (X : List Nat) (a0 K r : Nat) (ht_a0 : t a0 = (3, 0, r)) (hH : rH2 ld t K r) (hX : ∀ q : Nat, a0 ≤ q → q ∉ X) : Met l yX2_init (wl yX2_init cX2_init 1 none) ({ frames := 4, cells := 15, slots := 157, locals := 210 }) (rcp D cy ld t X [.ref a0] a0 2 [.int 0, .null, .null, .null, .int 0, .null, .null, .int 0, .null, .null, .null, .int 0, .null, .int 0, .null, .int 0, .int 0, .int 0, .int 0, .null] K) (rcqa D cy ld t X a0 K (K + 15) (.inr (2, [.int 0, .ref K, .ref (K + 1), .ref (K + 2), .int 0, .ref (K + 3), .ref (K + 4), .int 0, .ref (K + 5), .ref (K + 6), .ref (K + 7), .int 0, .ref (K + 8), .int 0, .ref (K + 9), .int (-1), .int 30, .int 50, .int 0, .ref (K + 10)])) []) 15 157 (fun q => q = a0 ∨ K ≤ q) := by
  refine rc_met (y := yX2_init) (cc := cX2_init) (maxL := 1) (ret := none) (av := [.ref a0]) _ (by decide) (Nat.le_of_ble_eq_true rfl) ?_
  intro p e s m args below meth c hx hb hr hml hts htl hown hlocks hin hK H locs hbn hG hat_a0 hS ls hl
  have hown : s.vm.findClass RX2 = some m.cls := hown
  have hin : meth.name = "<init>" := hin
  have hl : lv_has ls 1 [(0, .ref a0)] := hl
  obtain ⟨ht0, ht1, ht2, ht3, ht4, ht5, ht6, ht7, ht8, ht9, ht10, hs11, hl2, hl3, hl4, hl5, hl6, hl7, hl10⟩ := hH
  refine lv_aload_n hx hb dX2_init_0 rfl (lv_at hl 0 rfl) ?_
  refine W.objInit hx hb hown (htl _ mw_59) (htl _ mw_10) (htl _ mw_11) rfl (by rw [hml]; exact hl.1) rfl dX2_init_1 (Nat.le_of_ble_eq_true rfl) (Nat.le_of_ble_eq_true rfl) ?_
  refine W.eq (g2 := F0 m 4 ls []) rfl ?_
  refine lv_aload_n hx hb dX2_init_4 rfl (lv_at hl 0 rfl) ?_
  refine lv_bipush (v := 8) hx hb dX2_init_5 (by decide) ?_
  refine rc_newa hx hb (htl _ mw_32) rfl hK hG hS 0 rfl (fun _ h => h) (a0 := (8, .inl (fun _ => 0))) (fun _ => rfl) (by decide) (by decide) (Nat.le_of_ble_eq_true rfl) (Nat.le_of_ble_eq_true rfl) (Nat.le_of_ble_eq_true rfl) dX2_init_7 (fun H hG hat_n oq hS => ?_)
  have hat_a0 : va_at D vwCl (a0, .inr (2, [.int 0, .null, .null, .null, .int 0, .null, .null, .int 0, .null, .null, .null, .int 0, .null, .int 0, .null, .int 0, .int 0, .int 0, .int 0, .null])) H := hat_a0.kept (oq _ (by omega))
  refine W.widen (k := 1) (n := 8) (Nat.le_of_ble_eq_true rfl) (Nat.le_of_ble_eq_true rfl) ?_
  have hG : rc_G D cy ld t (a0 :: X) (K + 1) H := rc_G.close hG hat_n ht0 (rc_arr (by decide) (by decide) (fun j hj => trivial))
  refine rc_putF (ci := 2) (v := .ref K) (ty := .array (.int)) (C := RX2) (T := TX2) (N := 20) hx hb htl inX2 tyX2 tyX2_ok nmX2 hown hK hat_a0 rfl 1 (by decide) (htl _ mw_60) (fun _ h9 => h9) rfl hin rfl (tyX2_ok 1 (by decide)) rfl rfl (Nat.le_of_ble_eq_true rfl) dX2_init_9 (fun H j9 hat_n z9 oq => ?_)
  have hS := hS.put (k := j9) z9 oq (by show _ = _ ∨ _ ≤ _; omega)
  have hat_a0 : va_at D vwCl (a0, .inr (2, [.int 0, .ref K, .null, .null, .int 0, .null, .null, .int 0, .null, .null, .null, .int 0, .null, .int 0, .null, .int 0, .int 0, .int 0, .int 0, .null])) H := hat_n
  have hG : rc_G D cy ld t (a0 :: X) (K + 1) H := hG.ajar (by simp) z9 oq
  refine lv_aload_n hx hb dX2_init_12 rfl (lv_at hl 0 rfl) ?_
  refine lv_bipush (v := 8) hx hb dX2_init_13 (by decide) ?_
  refine rc_newa hx hb (htl _ mw_32) rfl hK hG hS 0 rfl (fun _ h => h) (a0 := (8, .inl (fun _ => 0))) (fun _ => rfl) (by decide) (by decide) (Nat.le_of_ble_eq_true rfl) (Nat.le_of_ble_eq_true rfl) (Nat.le_of_ble_eq_true rfl) dX2_init_15 (fun H hG hat_n oq hS => ?_)
  have hat_a0 : va_at D vwCl (a0, .inr (2, [.int 0, .ref K, .null, .null, .int 0, .null, .null, .int 0, .null, .null, .null, .int 0, .null, .int 0, .null, .int 0, .int 0, .int 0, .int 0, .null])) H := hat_a0.kept (oq _ (by omega))
  refine W.widen (k := 2) (n := 16) (Nat.le_of_ble_eq_true rfl) (Nat.le_of_ble_eq_true rfl) ?_
  have hG : rc_G D cy ld t (a0 :: X) (K + 2) H := rc_G.close hG hat_n ht1 (rc_arr (by decide) (by decide) (fun j hj => by show 0 ≤ ((0 : Int32).toInt) ∧ _; decide))
  refine rc_putF (ci := 2) (v := .ref (K + 1)) (ty := .array (.int)) (C := RX2) (T := TX2) (N := 20) hx hb htl inX2 tyX2 tyX2_ok nmX2 hown hK hat_a0 rfl 2 (by decide) (htl _ mw_61) (fun _ h9 => h9) rfl hin rfl (tyX2_ok 2 (by decide)) rfl rfl (Nat.le_of_ble_eq_true rfl) dX2_init_17 (fun H j9 hat_n z9 oq => ?_)
  have hS := hS.put (k := j9) z9 oq (by show _ = _ ∨ _ ≤ _; omega)
  have hat_a0 : va_at D vwCl (a0, .inr (2, [.int 0, .ref K, .ref (K + 1), .null, .int 0, .null, .null, .int 0, .null, .null, .null, .int 0, .null, .int 0, .null, .int 0, .int 0, .int 0, .int 0, .null])) H := hat_n
  have hG : rc_G D cy ld t (a0 :: X) (K + 2) H := hG.ajar (by simp) z9 oq
  refine lv_aload_n hx hb dX2_init_20 rfl (lv_at hl 0 rfl) ?_
  refine lv_bipush (v := 8) hx hb dX2_init_21 (by decide) ?_
  refine rc_newa hx hb (htl _ mw_32) rfl hK hG hS 0 rfl (fun _ h => h) (a0 := (8, .inl (fun _ => 0))) (fun _ => rfl) (by decide) (by decide) (Nat.le_of_ble_eq_true rfl) (Nat.le_of_ble_eq_true rfl) (Nat.le_of_ble_eq_true rfl) dX2_init_23 (fun H hG hat_n oq hS => ?_)
  have hat_a0 : va_at D vwCl (a0, .inr (2, [.int 0, .ref K, .ref (K + 1), .null, .int 0, .null, .null, .int 0, .null, .null, .null, .int 0, .null, .int 0, .null, .int 0, .int 0, .int 0, .int 0, .null])) H := hat_a0.kept (oq _ (by omega))
  refine W.widen (k := 3) (n := 24) (Nat.le_of_ble_eq_true rfl) (Nat.le_of_ble_eq_true rfl) ?_
  have hG : rc_G D cy ld t (a0 :: X) (K + 3) H := rc_G.close hG hat_n ht2 (rc_arr (by decide) (by decide) (fun j hj => trivial))
  refine rc_putF (ci := 2) (v := .ref (K + 2)) (ty := .array (.int)) (C := RX2) (T := TX2) (N := 20) hx hb htl inX2 tyX2 tyX2_ok nmX2 hown hK hat_a0 rfl 3 (by decide) (htl _ mw_62) (fun _ h9 => h9) rfl hin rfl (tyX2_ok 3 (by decide)) rfl rfl (Nat.le_of_ble_eq_true rfl) dX2_init_25 (fun H j9 hat_n z9 oq => ?_)
  have hS := hS.put (k := j9) z9 oq (by show _ = _ ∨ _ ≤ _; omega)
  have hat_a0 : va_at D vwCl (a0, .inr (2, [.int 0, .ref K, .ref (K + 1), .ref (K + 2), .int 0, .null, .null, .int 0, .null, .null, .null, .int 0, .null, .int 0, .null, .int 0, .int 0, .int 0, .int 0, .null])) H := hat_n
  have hG : rc_G D cy ld t (a0 :: X) (K + 3) H := hG.ajar (by simp) z9 oq
  refine lv_aload_n hx hb dX2_init_28 rfl (lv_at hl 0 rfl) ?_
  refine lv_bipush (v := 10) hx hb dX2_init_29 (by decide) ?_
  refine rc_newa hx hb (htl _ mw_32) rfl hK hG hS 0 rfl (fun _ h => h) (a0 := (10, .inl (fun _ => 0))) (fun _ => rfl) (by decide) (by decide) (Nat.le_of_ble_eq_true rfl) (Nat.le_of_ble_eq_true rfl) (Nat.le_of_ble_eq_true rfl) dX2_init_31 (fun H hG hat_n oq hS => ?_)
  have hat_a0 : va_at D vwCl (a0, .inr (2, [.int 0, .ref K, .ref (K + 1), .ref (K + 2), .int 0, .null, .null, .int 0, .null, .null, .null, .int 0, .null, .int 0, .null, .int 0, .int 0, .int 0, .int 0, .null])) H := hat_a0.kept (oq _ (by omega))
  refine W.widen (k := 4) (n := 34) (Nat.le_of_ble_eq_true rfl) (Nat.le_of_ble_eq_true rfl) ?_
  have hG : rc_G D cy ld t (a0 :: X) (K + 4) H := rc_G.close hG hat_n ht3 (rc_arr (by decide) (by decide) (fun j hj => trivial))
  refine rc_putF (ci := 2) (v := .ref (K + 3)) (ty := .array (.int)) (C := RX2) (T := TX2) (N := 20) hx hb htl inX2 tyX2 tyX2_ok nmX2 hown hK hat_a0 rfl 5 (by decide) (htl _ mw_63) (fun _ h9 => h9) rfl hin rfl (tyX2_ok 5 (by decide)) rfl rfl (Nat.le_of_ble_eq_true rfl) dX2_init_33 (fun H j9 hat_n z9 oq => ?_)
  have hS := hS.put (k := j9) z9 oq (by show _ = _ ∨ _ ≤ _; omega)
  have hat_a0 : va_at D vwCl (a0, .inr (2, [.int 0, .ref K, .ref (K + 1), .ref (K + 2), .int 0, .ref (K + 3), .null, .int 0, .null, .null, .null, .int 0, .null, .int 0, .null, .int 0, .int 0, .int 0, .int 0, .null])) H := hat_n
  have hG : rc_G D cy ld t (a0 :: X) (K + 4) H := hG.ajar (by simp) z9 oq
  refine lv_aload_n hx hb dX2_init_36 rfl (lv_at hl 0 rfl) ?_
  refine lv_bipush (v := 10) hx hb dX2_init_37 (by decide) ?_
  refine rc_newa hx hb (htl _ mw_32) rfl hK hG hS 0 rfl (fun _ h => h) (a0 := (10, .inl (fun _ => 0))) (fun _ => rfl) (by decide) (by decide) (Nat.le_of_ble_eq_true rfl) (Nat.le_of_ble_eq_true rfl) (Nat.le_of_ble_eq_true rfl) dX2_init_39 (fun H hG hat_n oq hS => ?_)
  have hat_a0 : va_at D vwCl (a0, .inr (2, [.int 0, .ref K, .ref (K + 1), .ref (K + 2), .int 0, .ref (K + 3), .null, .int 0, .null, .null, .null, .int 0, .null, .int 0, .null, .int 0, .int 0, .int 0, .int 0, .null])) H := hat_a0.kept (oq _ (by omega))
  refine W.widen (k := 5) (n := 44) (Nat.le_of_ble_eq_true rfl) (Nat.le_of_ble_eq_true rfl) ?_
  have hG : rc_G D cy ld t (a0 :: X) (K + 5) H := rc_G.close hG hat_n ht4 (rc_arr (by decide) (by decide) (fun j hj => trivial))
  refine rc_putF (ci := 2) (v := .ref (K + 4)) (ty := .array (.int)) (C := RX2) (T := TX2) (N := 20) hx hb htl inX2 tyX2 tyX2_ok nmX2 hown hK hat_a0 rfl 6 (by decide) (htl _ mw_64) (fun _ h9 => h9) rfl hin rfl (tyX2_ok 6 (by decide)) rfl rfl (Nat.le_of_ble_eq_true rfl) dX2_init_41 (fun H j9 hat_n z9 oq => ?_)
  have hS := hS.put (k := j9) z9 oq (by show _ = _ ∨ _ ≤ _; omega)
  have hat_a0 : va_at D vwCl (a0, .inr (2, [.int 0, .ref K, .ref (K + 1), .ref (K + 2), .int 0, .ref (K + 3), .ref (K + 4), .int 0, .null, .null, .null, .int 0, .null, .int 0, .null, .int 0, .int 0, .int 0, .int 0, .null])) H := hat_n
  have hG : rc_G D cy ld t (a0 :: X) (K + 5) H := hG.ajar (by simp) z9 oq
  refine lv_aload_n hx hb dX2_init_44 rfl (lv_at hl 0 rfl) ?_
  refine lv_bipush (v := 10) hx hb dX2_init_45 (by decide) ?_
  refine rc_newa hx hb (htl _ mw_32) rfl hK hG hS 0 rfl (fun _ h => h) (a0 := (10, .inl (fun _ => 0))) (fun _ => rfl) (by decide) (by decide) (Nat.le_of_ble_eq_true rfl) (Nat.le_of_ble_eq_true rfl) (Nat.le_of_ble_eq_true rfl) dX2_init_47 (fun H hG hat_n oq hS => ?_)
  have hat_a0 : va_at D vwCl (a0, .inr (2, [.int 0, .ref K, .ref (K + 1), .ref (K + 2), .int 0, .ref (K + 3), .ref (K + 4), .int 0, .null, .null, .null, .int 0, .null, .int 0, .null, .int 0, .int 0, .int 0, .int 0, .null])) H := hat_a0.kept (oq _ (by omega))
  refine W.widen (k := 6) (n := 54) (Nat.le_of_ble_eq_true rfl) (Nat.le_of_ble_eq_true rfl) ?_
  have hG : rc_G D cy ld t (a0 :: X) (K + 6) H := rc_G.close hG hat_n ht5 (rc_arr (by decide) (by decide) (fun j hj => trivial))
  refine rc_putF (ci := 2) (v := .ref (K + 5)) (ty := .array (.int)) (C := RX2) (T := TX2) (N := 20) hx hb htl inX2 tyX2 tyX2_ok nmX2 hown hK hat_a0 rfl 8 (by decide) (htl _ mw_65) (fun _ h9 => h9) rfl hin rfl (tyX2_ok 8 (by decide)) rfl rfl (Nat.le_of_ble_eq_true rfl) dX2_init_49 (fun H j9 hat_n z9 oq => ?_)
  have hS := hS.put (k := j9) z9 oq (by show _ = _ ∨ _ ≤ _; omega)
  have hat_a0 : va_at D vwCl (a0, .inr (2, [.int 0, .ref K, .ref (K + 1), .ref (K + 2), .int 0, .ref (K + 3), .ref (K + 4), .int 0, .ref (K + 5), .null, .null, .int 0, .null, .int 0, .null, .int 0, .int 0, .int 0, .int 0, .null])) H := hat_n
  have hG : rc_G D cy ld t (a0 :: X) (K + 6) H := hG.ajar (by simp) z9 oq
  refine lv_aload_n hx hb dX2_init_52 rfl (lv_at hl 0 rfl) ?_
  refine lv_bipush (v := 10) hx hb dX2_init_53 (by decide) ?_
  refine rc_newa hx hb (htl _ mw_32) rfl hK hG hS 0 rfl (fun _ h => h) (a0 := (10, .inl (fun _ => 0))) (fun _ => rfl) (by decide) (by decide) (Nat.le_of_ble_eq_true rfl) (Nat.le_of_ble_eq_true rfl) (Nat.le_of_ble_eq_true rfl) dX2_init_55 (fun H hG hat_n oq hS => ?_)
  have hat_a0 : va_at D vwCl (a0, .inr (2, [.int 0, .ref K, .ref (K + 1), .ref (K + 2), .int 0, .ref (K + 3), .ref (K + 4), .int 0, .ref (K + 5), .null, .null, .int 0, .null, .int 0, .null, .int 0, .int 0, .int 0, .int 0, .null])) H := hat_a0.kept (oq _ (by omega))
  refine W.widen (k := 7) (n := 64) (Nat.le_of_ble_eq_true rfl) (Nat.le_of_ble_eq_true rfl) ?_
  have hG : rc_G D cy ld t (a0 :: X) (K + 7) H := rc_G.close hG hat_n ht6 (rc_arr (by decide) (by decide) (fun j hj => trivial))
  refine rc_putF (ci := 2) (v := .ref (K + 6)) (ty := .array (.int)) (C := RX2) (T := TX2) (N := 20) hx hb htl inX2 tyX2 tyX2_ok nmX2 hown hK hat_a0 rfl 9 (by decide) (htl _ mw_66) (fun _ h9 => h9) rfl hin rfl (tyX2_ok 9 (by decide)) rfl rfl (Nat.le_of_ble_eq_true rfl) dX2_init_57 (fun H j9 hat_n z9 oq => ?_)
  have hS := hS.put (k := j9) z9 oq (by show _ = _ ∨ _ ≤ _; omega)
  have hat_a0 : va_at D vwCl (a0, .inr (2, [.int 0, .ref K, .ref (K + 1), .ref (K + 2), .int 0, .ref (K + 3), .ref (K + 4), .int 0, .ref (K + 5), .ref (K + 6), .null, .int 0, .null, .int 0, .null, .int 0, .int 0, .int 0, .int 0, .null])) H := hat_n
  have hG : rc_G D cy ld t (a0 :: X) (K + 7) H := hG.ajar (by simp) z9 oq
  refine lv_aload_n hx hb dX2_init_60 rfl (lv_at hl 0 rfl) ?_
  refine lv_bipush (v := 10) hx hb dX2_init_61 (by decide) ?_
  refine rc_newa hx hb (htl _ mw_32) rfl hK hG hS 0 rfl (fun _ h => h) (a0 := (10, .inl (fun _ => 0))) (fun _ => rfl) (by decide) (by decide) (Nat.le_of_ble_eq_true rfl) (Nat.le_of_ble_eq_true rfl) (Nat.le_of_ble_eq_true rfl) dX2_init_63 (fun H hG hat_n oq hS => ?_)
  have hat_a0 : va_at D vwCl (a0, .inr (2, [.int 0, .ref K, .ref (K + 1), .ref (K + 2), .int 0, .ref (K + 3), .ref (K + 4), .int 0, .ref (K + 5), .ref (K + 6), .null, .int 0, .null, .int 0, .null, .int 0, .int 0, .int 0, .int 0, .null])) H := hat_a0.kept (oq _ (by omega))
  refine W.widen (k := 8) (n := 74) (Nat.le_of_ble_eq_true rfl) (Nat.le_of_ble_eq_true rfl) ?_
  have hG : rc_G D cy ld t (a0 :: X) (K + 8) H := rc_G.close hG hat_n ht7 (rc_arr (by decide) (by decide) (fun j hj => trivial))
  refine rc_putF (ci := 2) (v := .ref (K + 7)) (ty := .array (.int)) (C := RX2) (T := TX2) (N := 20) hx hb htl inX2 tyX2 tyX2_ok nmX2 hown hK hat_a0 rfl 10 (by decide) (htl _ mw_67) (fun _ h9 => h9) rfl hin rfl (tyX2_ok 10 (by decide)) rfl rfl (Nat.le_of_ble_eq_true rfl) dX2_init_65 (fun H j9 hat_n z9 oq => ?_)
  have hS := hS.put (k := j9) z9 oq (by show _ = _ ∨ _ ≤ _; omega)
  have hat_a0 : va_at D vwCl (a0, .inr (2, [.int 0, .ref K, .ref (K + 1), .ref (K + 2), .int 0, .ref (K + 3), .ref (K + 4), .int 0, .ref (K + 5), .ref (K + 6), .ref (K + 7), .int 0, .null, .int 0, .null, .int 0, .int 0, .int 0, .int 0, .null])) H := hat_n
  have hG : rc_G D cy ld t (a0 :: X) (K + 8) H := hG.ajar (by simp) z9 oq
  refine lv_aload_n hx hb dX2_init_68 rfl (lv_at hl 0 rfl) ?_
  refine lv_bipush (v := 40) hx hb dX2_init_69 (by decide) ?_
  refine rc_newa hx hb (htl _ mw_32) rfl hK hG hS 0 rfl (fun _ h => h) (a0 := (40, .inl (fun _ => 0))) (fun _ => rfl) (by decide) (by decide) (Nat.le_of_ble_eq_true rfl) (Nat.le_of_ble_eq_true rfl) (Nat.le_of_ble_eq_true rfl) dX2_init_71 (fun H hG hat_n oq hS => ?_)
  have hat_a0 : va_at D vwCl (a0, .inr (2, [.int 0, .ref K, .ref (K + 1), .ref (K + 2), .int 0, .ref (K + 3), .ref (K + 4), .int 0, .ref (K + 5), .ref (K + 6), .ref (K + 7), .int 0, .null, .int 0, .null, .int 0, .int 0, .int 0, .int 0, .null])) H := hat_a0.kept (oq _ (by omega))
  refine W.widen (k := 9) (n := 114) (Nat.le_of_ble_eq_true rfl) (Nat.le_of_ble_eq_true rfl) ?_
  have hG : rc_G D cy ld t (a0 :: X) (K + 9) H := rc_G.close hG hat_n ht8 (rc_arr (by decide) (by decide) (fun j hj => by exact ⟨by decide, by decide, fun _ => by decide, fun _ => by decide⟩))
  refine rc_putF (ci := 2) (v := .ref (K + 8)) (ty := .array (.int)) (C := RX2) (T := TX2) (N := 20) hx hb htl inX2 tyX2 tyX2_ok nmX2 hown hK hat_a0 rfl 12 (by decide) (htl _ mw_68) (fun _ h9 => h9) rfl hin rfl (tyX2_ok 12 (by decide)) rfl rfl (Nat.le_of_ble_eq_true rfl) dX2_init_73 (fun H j9 hat_n z9 oq => ?_)
  have hS := hS.put (k := j9) z9 oq (by show _ = _ ∨ _ ≤ _; omega)
  have hat_a0 : va_at D vwCl (a0, .inr (2, [.int 0, .ref K, .ref (K + 1), .ref (K + 2), .int 0, .ref (K + 3), .ref (K + 4), .int 0, .ref (K + 5), .ref (K + 6), .ref (K + 7), .int 0, .ref (K + 8), .int 0, .null, .int 0, .int 0, .int 0, .int 0, .null])) H := hat_n
  have hG : rc_G D cy ld t (a0 :: X) (K + 9) H := hG.ajar (by simp) z9 oq
  refine lv_aload_n hx hb dX2_init_76 rfl (lv_at hl 0 rfl) ?_
  refine lv_bipush (v := 6) hx hb dX2_init_77 (by decide) ?_
  refine rc_newq (N' := 6) hx hb hown (htl _ mw_69) hK.2.1.2.2 hK hG hS 5 rfl (by decide) (by decide) (Nat.le_of_ble_eq_true rfl) (Nat.le_of_ble_eq_true rfl) (Nat.le_of_ble_eq_true rfl) dX2_init_79 (fun H hG hat_n oq hS => ?_)
  have hat_a0 : va_at D vwCl (a0, .inr (2, [.int 0, .ref K, .ref (K + 1), .ref (K + 2), .int 0, .ref (K + 3), .ref (K + 4), .int 0, .ref (K + 5), .ref (K + 6), .ref (K + 7), .int 0, .ref (K + 8), .int 0, .null, .int 0, .int 0, .int 0, .int 0, .null])) H := hat_a0.kept (oq _ (by omega))
  refine W.widen (k := 10) (n := 120) (Nat.le_of_ble_eq_true rfl) (Nat.le_of_ble_eq_true rfl) ?_
  have hG : rc_G D cy ld t (a0 :: X) (K + 10) H := rc_G.close hG hat_n ht9 (rc_arrQ (c := 2) (by decide) (by decide) (fun j hj => fun a9 h9 => by cases h9))
  refine rc_putF (ci := 2) (v := .ref (K + 9)) (ty := .array (.object "CradleDuel$Script")) (C := RX2) (T := TX2) (N := 20) hx hb htl inX2 tyX2 tyX2_ok nmX2 hown hK hat_a0 rfl 14 (by decide) (htl _ mw_70) (fun _ h9 => h9) rfl hin rfl (tyX2_ok 14 (by decide)) rfl rfl (Nat.le_of_ble_eq_true rfl) dX2_init_82 (fun H j9 hat_n z9 oq => ?_)
  have hS := hS.put (k := j9) z9 oq (by show _ = _ ∨ _ ≤ _; omega)
  have hat_a0 : va_at D vwCl (a0, .inr (2, [.int 0, .ref K, .ref (K + 1), .ref (K + 2), .int 0, .ref (K + 3), .ref (K + 4), .int 0, .ref (K + 5), .ref (K + 6), .ref (K + 7), .int 0, .ref (K + 8), .int 0, .ref (K + 9), .int 0, .int 0, .int 0, .int 0, .null])) H := hat_n
  have hG : rc_G D cy ld t (a0 :: X) (K + 10) H := hG.ajar (by simp) z9 oq
  refine lv_aload_n hx hb dX2_init_85 rfl (lv_at hl 0 rfl) ?_
  refine lv_iconst (v := (-1)) hx hb dX2_init_86 (by decide) ?_
  refine tk_put0 (ci := 2) (v := .int (-1)) (ty := .int) (C := RX2) (T := TX2) (N := 20) hx hb htl inX2 tyX2 tyX2_ok nmX2 hown hK hat_a0 rfl 15 (by decide) (htl _ mw_71) (fun _ h9 => h9) rfl (tyX2_ok 15 (by decide)) rfl rfl (Nat.le_of_ble_eq_true rfl) dX2_init_87 (fun H j9 hat_n z9 oq => ?_)
  have hS := hS.put (k := j9) z9 oq (by show _ = _ ∨ _ ≤ _; omega)
  have hat_a0 : va_at D vwCl (a0, .inr (2, [.int 0, .ref K, .ref (K + 1), .ref (K + 2), .int 0, .ref (K + 3), .ref (K + 4), .int 0, .ref (K + 5), .ref (K + 6), .ref (K + 7), .int 0, .ref (K + 8), .int 0, .ref (K + 9), .int (-1), .int 0, .int 0, .int 0, .null])) H := hat_n
  have hG : rc_G D cy ld t (a0 :: X) (K + 10) H := hG.ajar (by simp) z9 oq
  refine lv_aload_n hx hb dX2_init_90 rfl (lv_at hl 0 rfl) ?_
  refine lv_bipush (v := 30) hx hb dX2_init_91 (by decide) ?_
  refine tk_put0 (ci := 2) (v := .int 30) (ty := .int) (C := RX2) (T := TX2) (N := 20) hx hb htl inX2 tyX2 tyX2_ok nmX2 hown hK hat_a0 rfl 16 (by decide) (htl _ mw_72) (fun _ h9 => h9) rfl (tyX2_ok 16 (by decide)) rfl rfl (Nat.le_of_ble_eq_true rfl) dX2_init_93 (fun H j9 hat_n z9 oq => ?_)
  have hS := hS.put (k := j9) z9 oq (by show _ = _ ∨ _ ≤ _; omega)
  have hat_a0 : va_at D vwCl (a0, .inr (2, [.int 0, .ref K, .ref (K + 1), .ref (K + 2), .int 0, .ref (K + 3), .ref (K + 4), .int 0, .ref (K + 5), .ref (K + 6), .ref (K + 7), .int 0, .ref (K + 8), .int 0, .ref (K + 9), .int (-1), .int 30, .int 0, .int 0, .null])) H := hat_n
  have hG : rc_G D cy ld t (a0 :: X) (K + 10) H := hG.ajar (by simp) z9 oq
  refine lv_aload_n hx hb dX2_init_96 rfl (lv_at hl 0 rfl) ?_
  refine lv_bipush (v := 50) hx hb dX2_init_97 (by decide) ?_
  refine tk_put0 (ci := 2) (v := .int 50) (ty := .int) (C := RX2) (T := TX2) (N := 20) hx hb htl inX2 tyX2 tyX2_ok nmX2 hown hK hat_a0 rfl 17 (by decide) (htl _ mw_73) (fun _ h9 => h9) rfl (tyX2_ok 17 (by decide)) rfl rfl (Nat.le_of_ble_eq_true rfl) dX2_init_99 (fun H j9 hat_n z9 oq => ?_)
  have hS := hS.put (k := j9) z9 oq (by show _ = _ ∨ _ ≤ _; omega)
  have hat_a0 : va_at D vwCl (a0, .inr (2, [.int 0, .ref K, .ref (K + 1), .ref (K + 2), .int 0, .ref (K + 3), .ref (K + 4), .int 0, .ref (K + 5), .ref (K + 6), .ref (K + 7), .int 0, .ref (K + 8), .int 0, .ref (K + 9), .int (-1), .int 30, .int 50, .int 0, .null])) H := hat_n
  have hG : rc_G D cy ld t (a0 :: X) (K + 10) H := hG.ajar (by simp) z9 oq
  refine lv_aload_n hx hb dX2_init_102 rfl (lv_at hl 0 rfl) ?_
  refine rc_new (ci := 9) (fs := [.null, .null, .null, .null, .int 0, .int 0, .int 0, .int 0, .int 0, .int 0, .int 0]) (C := RX9) (T := TX9) (N := 11) hx hb htl inX9 tyX9 tyX9_ok hown (htl _ mw_74) (htl _ mw_75) (htl _ mw_76) hK hG hS rfl dfX9 (Nat.le_of_ble_eq_true rfl) (Nat.le_of_ble_eq_true rfl) dX2_init_103 (fun H hG hat_n oq hS => ?_)
  have hat_a0 : va_at D vwCl (a0, .inr (2, [.int 0, .ref K, .ref (K + 1), .ref (K + 2), .int 0, .ref (K + 3), .ref (K + 4), .int 0, .ref (K + 5), .ref (K + 6), .ref (K + 7), .int 0, .ref (K + 8), .int 0, .ref (K + 9), .int (-1), .int 30, .int 50, .int 0, .null])) H := hat_a0.kept (oq _ (by omega))
  refine W.widen (k := 11) (n := 131) (Nat.le_of_ble_eq_true rfl) (Nat.le_of_ble_eq_true rfl) ?_
  have hG : rc_G D cy ld t ((K + 10) :: a0 :: X) (K + 11) H := hG
  have hat_K10 : va_at D vwCl ((K + 10), .inr (9, [.null, .null, .null, .null, .int 0, .int 0, .int 0, .int 0, .int 0, .int 0, .int 0])) H := hat_n
  refine lv_dup hx hb dX2_init_106 rfl ?_
  have hXX := kc_X9 l D cy ld t (a0 :: X) (K + 10) (K + 11) r ht10 hs11  (fun q hq => rc_nin (by omega) (hX q (by omega)))
  refine rc_I (As := []) (rest := [.ref (K + 10), .ref a0]) (ci := 9) (n1 := (K + 15)) ⟨hx, hb, hml, hown, hts⟩ hK hG hat_K10 hS (fun q h9 => by show _ = _ ∨ _ ≤ _; omega) hXX ⟨callB_of 0 hts (wl_in mw_80) rfl rfl rfl (htl _ mw_76) (htl _ mw_78) hd_yX9_init ⟨(Nat.le_of_ble_eq_true rfl), (Nat.le_of_ble_eq_true rfl)⟩, rfl, htl _ mw_79⟩ rfl hl.1 rfl (Nat.le_of_ble_eq_true rfl) dX2_init_107 ⟨(Nat.le_of_ble_eq_true rfl), (Nat.le_of_ble_eq_true rfl)⟩ (fun H locs hG oq hS => ?_)
  have hat_a0 : va_at D vwCl (a0, .inr (2, [.int 0, .ref K, .ref (K + 1), .ref (K + 2), .int 0, .ref (K + 3), .ref (K + 4), .int 0, .ref (K + 5), .ref (K + 6), .ref (K + 7), .int 0, .ref (K + 8), .int 0, .ref (K + 9), .int (-1), .int 30, .int 50, .int 0, .null])) H := hat_a0.kept (oq _ (by omega) (by omega))
  refine W.widen (k := 15) (n := 157) (Nat.le_of_ble_eq_true rfl) (Nat.le_of_ble_eq_true rfl) ?_
  have hG : rc_G D cy ld t (a0 :: X) (K + 15) H := hG
  refine rc_putF (ci := 2) (v := .ref (K + 10)) (ty := .object "CradleDuel$Stand") (C := RX2) (T := TX2) (N := 20) hx hb htl inX2 tyX2 tyX2_ok nmX2 hown hK hat_a0 rfl 19 (by decide) (htl _ mw_77) (fun _ h9 => h9) rfl hin rfl (tyX2_ok 19 (by decide)) rfl rfl (Nat.le_of_ble_eq_true rfl) dX2_init_110 (fun H j9 hat_n z9 oq => ?_)
  have hS := hS.put (k := j9) z9 oq (by show _ = _ ∨ _ ≤ _; omega)
  have hat_a0 : va_at D vwCl (a0, .inr (2, [.int 0, .ref K, .ref (K + 1), .ref (K + 2), .int 0, .ref (K + 3), .ref (K + 4), .int 0, .ref (K + 5), .ref (K + 6), .ref (K + 7), .int 0, .ref (K + 8), .int 0, .ref (K + 9), .int (-1), .int 30, .int 50, .int 0, .ref (K + 10)])) H := hat_n
  have hG : rc_G D cy ld t (a0 :: X) (K + 15) H := hG.ajar (by simp) z9 oq
  have hG : rc_G D cy ld t X (K + 15) H := hG.close hat_a0 ht_a0 (rc_obj (ci := 2) (by decide) rfl (fun j sp hj => by
      match j, hj with
      | 0, hj => cases hj; exact ⟨_, rfl, _, rfl, by decide, by decide⟩
      | 1, hj => cases hj; exact ⟨_, rfl, _, rfl, ht0⟩
      | 2, hj => cases hj; exact ⟨_, rfl, _, rfl, ht1⟩
      | 3, hj => cases hj; exact ⟨_, rfl, congrArg Value.ref hl2.symm, (congrArg t hl2).trans ht2⟩
      | 4, hj => cases hj; exact ⟨_, rfl, _, rfl, by decide, by decide⟩
      | 5, hj => cases hj; exact ⟨_, rfl, congrArg Value.ref hl3.symm, (congrArg t hl3).trans ht3⟩
      | 6, hj => cases hj; exact ⟨_, rfl, congrArg Value.ref hl4.symm, (congrArg t hl4).trans ht4⟩
      | 7, hj => cases hj; exact ⟨_, rfl, _, rfl, by decide, by decide⟩
      | 8, hj => cases hj; exact ⟨_, rfl, congrArg Value.ref hl5.symm, (congrArg t hl5).trans ht5⟩
      | 9, hj => cases hj; exact ⟨_, rfl, congrArg Value.ref hl6.symm, (congrArg t hl6).trans ht6⟩
      | 10, hj => cases hj; exact ⟨_, rfl, congrArg Value.ref hl7.symm, (congrArg t hl7).trans ht7⟩
      | 11, hj => cases hj; exact ⟨_, rfl, _, rfl, by decide, by decide⟩
      | 12, hj => cases hj; exact ⟨_, rfl, _, rfl, ht8⟩
      | 13, hj => cases hj; exact ⟨_, rfl, _, rfl, by decide, by decide⟩
      | 14, hj => cases hj; exact ⟨_, rfl, _, rfl, ht9⟩
      | 15, hj => cases hj; exact ⟨_, rfl, _, rfl, by decide, by decide⟩
      | 16, hj => cases hj; exact ⟨_, rfl, _, rfl, by decide, by decide⟩
      | 17, hj => cases hj; exact ⟨_, rfl, _, rfl, by decide, by decide⟩
      | 18, hj => cases hj; exact ⟨_, rfl, _, rfl, by decide, by decide⟩
      | 19, hj => cases hj; exact ⟨_, rfl, congrArg Value.ref hl10.symm, (congrArg t hl10).trans ht10⟩
      | j + 20, hj => simp [tk_F] at hj) trivial)
  exact rc_vreta hx hb hr hlocks hG ⟨hat_a0, fun q hq => by cases hq⟩ hS dX2_init_113
theorem dX11_init_0 : decode cX11_init 0 = .ok (.aload_n 0, 1) := by decide +kernel
theorem dX11_init_1 : decode cX11_init 1 = .ok (.invokespecial 1, 3) := by decide +kernel
theorem dX11_init_4 : decode cX11_init 4 = .ok (.aload_n 0, 1) := by decide +kernel
theorem dX11_init_5 : decode cX11_init 5 = .ok (.bipush 15, 2) := by decide +kernel
theorem dX11_init_7 : decode cX11_init 7 = .ok (.newarray .int, 2) := by decide +kernel
theorem dX11_init_9 : decode cX11_init 9 = .ok (.putfield 9, 3) := by decide +kernel
theorem dX11_init_12 : decode cX11_init 12 = .ok (.aload_n 0, 1) := by decide +kernel
theorem dX11_init_13 : decode cX11_init 13 = .ok (.bipush 32, 2) := by decide +kernel
theorem dX11_init_15 : decode cX11_init 15 = .ok (.newarray .int, 2) := by decide +kernel
theorem dX11_init_17 : decode cX11_init 17 = .ok (.putfield 15, 3) := by decide +kernel
theorem dX11_init_20 : decode cX11_init 20 = .ok (.return_, 1) := by decide +kernel
set_option maxHeartbeats 8000000 in
set_option maxRecDepth 100000 in
theorem kc_X11 (l : Launch) (D : va_G) (cy : Nat → ClassId) (ld : Nat → Nat) (t : tk_T) (X : List Nat) (a0 K : Nat) (ht_a0 : t a0 = (12, 0, 0)) (hH : rH11 ld t K) (hX : ∀ q : Nat, a0 ≤ q → q ∉ X) : Met l yX11_init (wl yX11_init cX11_init 1 none) ({ frames := 3, cells := 2, slots := 47, locals := 140 }) (rcp D cy ld t X [.ref a0] a0 11 [.null, .int 0, .null] K) (rcq D cy ld t X a0 K (K + 2)) 2 47 (fun q => q = a0 ∨ K ≤ q) := by
  refine rc_met (y := yX11_init) (cc := cX11_init) (maxL := 1) (ret := none) (av := [.ref a0]) _ (by decide) (Nat.le_of_ble_eq_true rfl) ?_
  intro p e s m args below meth c hx hb hr hml hts htl hown hlocks hin hK H locs hbn hG hat_a0 hS ls hl
  have hown : s.vm.findClass RX11 = some m.cls := hown
  have hin : meth.name = "<init>" := hin
  have hl : lv_has ls 1 [(0, .ref a0)] := hl
  obtain ⟨ht0, ht1⟩ := hH
  refine lv_aload_n hx hb dX11_init_0 rfl (lv_at hl 0 rfl) ?_
  refine W.objInit hx hb hown (htl _ mw_101) (htl _ mw_10) (htl _ mw_11) rfl (by rw [hml]; exact hl.1) rfl dX11_init_1 (Nat.le_of_ble_eq_true rfl) (Nat.le_of_ble_eq_true rfl) ?_
  refine W.eq (g2 := F0 m 4 ls []) rfl ?_
  refine lv_aload_n hx hb dX11_init_4 rfl (lv_at hl 0 rfl) ?_
  refine lv_bipush (v := 15) hx hb dX11_init_5 (by decide) ?_
  refine rc_newa hx hb (htl _ mw_32) rfl hK hG hS 0 rfl (fun _ h => h) (a0 := (15, .inl (fun _ => 0))) (fun _ => rfl) (by decide) (by decide) (Nat.le_of_ble_eq_true rfl) (Nat.le_of_ble_eq_true rfl) (Nat.le_of_ble_eq_true rfl) dX11_init_7 (fun H hG hat_n oq hS => ?_)
  have hat_a0 : va_at D vwCl (a0, .inr (11, [.null, .int 0, .null])) H := hat_a0.kept (oq _ (by omega))
  refine W.widen (k := 1) (n := 15) (Nat.le_of_ble_eq_true rfl) (Nat.le_of_ble_eq_true rfl) ?_
  have hG : rc_G D cy ld t (a0 :: X) (K + 1) H := rc_G.close hG hat_n ht0 (rc_arr (by decide) (by decide) (fun j hj => trivial))
  refine rc_putF (ci := 11) (v := .ref K) (ty := .array (.int)) (C := RX11) (T := TX11) (N := 3) hx hb htl inX11 tyX11 tyX11_ok nmX11 hown hK hat_a0 rfl 0 (by decide) (htl _ mw_102) (fun _ h9 => h9) rfl hin rfl (tyX11_ok 0 (by decide)) rfl rfl (Nat.le_of_ble_eq_true rfl) dX11_init_9 (fun H j9 hat_n z9 oq => ?_)
  have hS := hS.put (k := j9) z9 oq (by show _ = _ ∨ _ ≤ _; omega)
  have hat_a0 : va_at D vwCl (a0, .inr (11, [.ref K, .int 0, .null])) H := hat_n
  have hG : rc_G D cy ld t (a0 :: X) (K + 1) H := hG.ajar (by simp) z9 oq
  refine lv_aload_n hx hb dX11_init_12 rfl (lv_at hl 0 rfl) ?_
  refine lv_bipush (v := 32) hx hb dX11_init_13 (by decide) ?_
  refine rc_newa hx hb (htl _ mw_32) rfl hK hG hS 0 rfl (fun _ h => h) (a0 := (32, .inl (fun _ => 0))) (fun _ => rfl) (by decide) (by decide) (Nat.le_of_ble_eq_true rfl) (Nat.le_of_ble_eq_true rfl) (Nat.le_of_ble_eq_true rfl) dX11_init_15 (fun H hG hat_n oq hS => ?_)
  have hat_a0 : va_at D vwCl (a0, .inr (11, [.ref K, .int 0, .null])) H := hat_a0.kept (oq _ (by omega))
  refine W.widen (k := 2) (n := 47) (Nat.le_of_ble_eq_true rfl) (Nat.le_of_ble_eq_true rfl) ?_
  have hG : rc_G D cy ld t (a0 :: X) (K + 2) H := rc_G.close hG hat_n ht1 (rc_arr (by decide) (by decide) (fun j hj => trivial))
  refine rc_putF (ci := 11) (v := .ref (K + 1)) (ty := .array (.int)) (C := RX11) (T := TX11) (N := 3) hx hb htl inX11 tyX11 tyX11_ok nmX11 hown hK hat_a0 rfl 2 (by decide) (htl _ mw_103) (fun _ h9 => h9) rfl hin rfl (tyX11_ok 2 (by decide)) rfl rfl (Nat.le_of_ble_eq_true rfl) dX11_init_17 (fun H j9 hat_n z9 oq => ?_)
  have hS := hS.put (k := j9) z9 oq (by show _ = _ ∨ _ ≤ _; omega)
  have hat_a0 : va_at D vwCl (a0, .inr (11, [.ref K, .int 0, .ref (K + 1)])) H := hat_n
  have hG : rc_G D cy ld t (a0 :: X) (K + 2) H := hG.ajar (by simp) z9 oq
  have hG : rc_G D cy ld t X (K + 2) H := hG.close hat_a0 ht_a0 (rc_obj (ci := 11) (by decide) rfl (fun j sp hj => by
      match j, hj with
      | 0, hj => cases hj; exact ⟨_, rfl, _, rfl, ht0⟩
      | 1, hj => cases hj; exact ⟨_, rfl, _, rfl, by decide, by decide⟩
      | 2, hj => cases hj; exact ⟨_, rfl, _, rfl, ht1⟩
      | j + 3, hj => simp [tk_F] at hj) trivial)
  exact rc_vret hx hb hr hlocks hG hS dX11_init_20
theorem dX8_init_0 : decode cX8_init 0 = .ok (.aload_n 0, 1) := by decide +kernel
theorem dX8_init_1 : decode cX8_init 1 = .ok (.invokespecial 3, 3) := by decide +kernel
theorem dX8_init_4 : decode cX8_init 4 = .ok (.aload_n 0, 1) := by decide +kernel
theorem dX8_init_5 : decode cX8_init 5 = .ok (.new 9, 3) := by decide +kernel
theorem dX8_init_8 : decode cX8_init 8 = .ok (.dup, 1) := by decide +kernel
theorem dX8_init_9 : decode cX8_init 9 = .ok (.invokespecial 11, 3) := by decide +kernel
theorem dX8_init_12 : decode cX8_init 12 = .ok (.putfield 12, 3) := by decide +kernel
theorem dX8_init_15 : decode cX8_init 15 = .ok (.aload_n 0, 1) := by decide +kernel
theorem dX8_init_16 : decode cX8_init 16 = .ok (.aload_n 1, 1) := by decide +kernel
theorem dX8_init_17 : decode cX8_init 17 = .ok (.putfield 18, 3) := by decide +kernel
theorem dX8_init_20 : decode cX8_init 20 = .ok (.return_, 1) := by decide +kernel
set_option maxHeartbeats 8000000 in
set_option maxRecDepth 100000 in
theorem kc_X8 (l : Launch) (D : va_G) (cy : Nat → ClassId) (ld : Nat → Nat) (t : tk_T) (X : List Nat) (a0 K a1 : Nat) (ht_a0 : t a0 = (9, 0, 0)) (hH : rH8 ld t K) (ht_a1 : t a1 = (3, 0, 0)) (hl_20 : ld 20 = a1) (hX : ∀ q : Nat, a0 ≤ q → q ∉ X) : Met l yX8_init (wl yX8_init cX8_init 2 none) ({ frames := 4, cells := 3, slots := 50, locals := 210 }) (rcp D cy ld t X [.ref a0, .ref a1] a0 8 [.null, .null, .int 0] K) (rcq D cy ld t X a0 K (K + 3)) 3 50 (fun q => q = a0 ∨ K ≤ q) := by
  refine rc_met (y := yX8_init) (cc := cX8_init) (maxL := 2) (ret := none) (av := [.ref a0, .ref a1]) _ (by decide) (Nat.le_of_ble_eq_true rfl) ?_
  intro p e s m args below meth c hx hb hr hml hts htl hown hlocks hin hK H locs hbn hG hat_a0 hS ls hl
  have hown : s.vm.findClass RX8 = some m.cls := hown
  have hin : meth.name = "<init>" := hin
  have hl : lv_has ls 2 [(0, .ref a0), (1, .ref a1)] := hl
  obtain ⟨ht0, hs1⟩ := hH
  refine lv_aload_n hx hb dX8_init_0 rfl (lv_at hl 0 rfl) ?_
  refine W.objInit hx hb hown (htl _ mw_92) (htl _ mw_10) (htl _ mw_11) rfl (by rw [hml]; exact hl.1) rfl dX8_init_1 (Nat.le_of_ble_eq_true rfl) (Nat.le_of_ble_eq_true rfl) ?_
  refine W.eq (g2 := F0 m 4 ls []) rfl ?_
  refine lv_aload_n hx hb dX8_init_4 rfl (lv_at hl 0 rfl) ?_
  refine rc_new (ci := 11) (fs := [.null, .int 0, .null]) (C := RX11) (T := TX11) (N := 3) hx hb htl inX11 tyX11 tyX11_ok hown (htl _ mw_93) (htl _ mw_94) (htl _ mw_95) hK hG hS rfl dfX11 (Nat.le_of_ble_eq_true rfl) (Nat.le_of_ble_eq_true rfl) dX8_init_5 (fun H hG hat_n oq hS => ?_)
  have hat_a0 : va_at D vwCl (a0, .inr (8, [.null, .null, .int 0])) H := hat_a0.kept (oq _ (by omega))
  refine W.widen (k := 1) (n := 3) (Nat.le_of_ble_eq_true rfl) (Nat.le_of_ble_eq_true rfl) ?_
  have hG : rc_G D cy ld t (K :: a0 :: X) (K + 1) H := hG
  have hat_K : va_at D vwCl (K, .inr (11, [.null, .int 0, .null])) H := hat_n
  refine lv_dup hx hb dX8_init_8 rfl ?_
  have hXX := kc_X11 l D cy ld t (a0 :: X) K (K + 1) ht0 hs1  (fun q hq => rc_nin (by omega) (hX q (by omega)))
  refine rc_I (As := []) (rest := [.ref K, .ref a0]) (ci := 11) (n1 := (K + 3)) ⟨hx, hb, hml, hown, hts⟩ hK hG hat_K hS (fun q h9 => by show _ = _ ∨ _ ≤ _; omega) hXX ⟨callB_of 0 hts (wl_in mw_100) rfl rfl rfl (htl _ mw_95) (htl _ mw_98) hd_yX11_init ⟨(Nat.le_of_ble_eq_true rfl), (Nat.le_of_ble_eq_true rfl)⟩, rfl, htl _ mw_99⟩ rfl hl.1 rfl (Nat.le_of_ble_eq_true rfl) dX8_init_9 ⟨(Nat.le_of_ble_eq_true rfl), (Nat.le_of_ble_eq_true rfl)⟩ (fun H locs hG oq hS => ?_)
  have hat_a0 : va_at D vwCl (a0, .inr (8, [.null, .null, .int 0])) H := hat_a0.kept (oq _ (by omega) (by omega))
  refine W.widen (k := 3) (n := 50) (Nat.le_of_ble_eq_true rfl) (Nat.le_of_ble_eq_true rfl) ?_
  have hG : rc_G D cy ld t (a0 :: X) (K + 3) H := hG
  refine rc_putF (ci := 8) (v := .ref K) (ty := .object "CradleDuel$Sums") (C := RX8) (T := TX8) (N := 3) hx hb htl inX8 tyX8 tyX8_ok nmX8 hown hK hat_a0 rfl 0 (by decide) (htl _ mw_96) (fun _ h9 => h9) rfl hin rfl (tyX8_ok 0 (by decide)) rfl rfl (Nat.le_of_ble_eq_true rfl) dX8_init_12 (fun H j9 hat_n z9 oq => ?_)
  have hS := hS.put (k := j9) z9 oq (by show _ = _ ∨ _ ≤ _; omega)
  have hat_a0 : va_at D vwCl (a0, .inr (8, [.ref K, .null, .int 0])) H := hat_n
  have hG : rc_G D cy ld t (a0 :: X) (K + 3) H := hG.ajar (by simp) z9 oq
  refine lv_aload_n hx hb dX8_init_15 rfl (lv_at hl 0 rfl) ?_
  refine lv_aload_n hx hb dX8_init_16 rfl (lv_at hl 1 rfl) ?_
  refine rc_putF (ci := 8) (v := .ref a1) (ty := .object "CradleDuel$Hills") (C := RX8) (T := TX8) (N := 3) hx hb htl inX8 tyX8 tyX8_ok nmX8 hown hK hat_a0 rfl 1 (by decide) (htl _ mw_97) (fun _ h9 => h9) rfl hin rfl (tyX8_ok 1 (by decide)) rfl rfl (Nat.le_of_ble_eq_true rfl) dX8_init_17 (fun H j9 hat_n z9 oq => ?_)
  have hS := hS.put (k := j9) z9 oq (by show _ = _ ∨ _ ≤ _; omega)
  have hat_a0 : va_at D vwCl (a0, .inr (8, [.ref K, .ref a1, .int 0])) H := hat_n
  have hG : rc_G D cy ld t (a0 :: X) (K + 3) H := hG.ajar (by simp) z9 oq
  have hG : rc_G D cy ld t X (K + 3) H := hG.close hat_a0 ht_a0 (rc_obj (ci := 8) (by decide) rfl (fun j sp hj => by
      match j, hj with
      | 0, hj => cases hj; exact ⟨_, rfl, _, rfl, ht0⟩
      | 1, hj => cases hj; exact ⟨_, rfl, congrArg Value.ref hl_20.symm, (congrArg t hl_20).trans ht_a1⟩
      | 2, hj => cases hj; exact ⟨_, rfl, _, rfl, by decide, by decide⟩
      | j + 3, hj => simp [tk_F] at hj) trivial)
  exact rc_vret hx hb hr hlocks hG hS dX8_init_20
theorem dX1_init_0 : decode cX1_init 0 = .ok (.aload_n 0, 1) := by decide +kernel
theorem dX1_init_1 : decode cX1_init 1 = .ok (.invokespecial 3, 3) := by decide +kernel
theorem dX1_init_4 : decode cX1_init 4 = .ok (.aload_n 0, 1) := by decide +kernel
theorem dX1_init_5 : decode cX1_init 5 = .ok (.bipush 16, 2) := by decide +kernel
theorem dX1_init_7 : decode cX1_init 7 = .ok (.anewarray 9, 3) := by decide +kernel
theorem dX1_init_10 : decode cX1_init 10 = .ok (.putfield 11, 3) := by decide +kernel
theorem dX1_init_13 : decode cX1_init 13 = .ok (.aload_n 0, 1) := by decide +kernel
theorem dX1_init_14 : decode cX1_init 14 = .ok (.bipush 16, 2) := by decide +kernel
theorem dX1_init_16 : decode cX1_init 16 = .ok (.newarray .int, 2) := by decide +kernel
theorem dX1_init_18 : decode cX1_init 18 = .ok (.putfield 17, 3) := by decide +kernel
theorem dX1_init_21 : decode cX1_init 21 = .ok (.aload_n 0, 1) := by decide +kernel
theorem dX1_init_22 : decode cX1_init 22 = .ok (.new 9, 3) := by decide +kernel
theorem dX1_init_25 : decode cX1_init 25 = .ok (.dup, 1) := by decide +kernel
theorem dX1_init_26 : decode cX1_init 26 = .ok (.invokespecial 21, 3) := by decide +kernel
theorem dX1_init_29 : decode cX1_init 29 = .ok (.putfield 22, 3) := by decide +kernel
theorem dX1_init_32 : decode cX1_init 32 = .ok (.aload_n 0, 1) := by decide +kernel
theorem dX1_init_33 : decode cX1_init 33 = .ok (.bipush 16, 2) := by decide +kernel
theorem dX1_init_35 : decode cX1_init 35 = .ok (.anewarray 9, 3) := by decide +kernel
theorem dX1_init_38 : decode cX1_init 38 = .ok (.putfield 26, 3) := by decide +kernel
theorem dX1_init_41 : decode cX1_init 41 = .ok (.aload_n 0, 1) := by decide +kernel
theorem dX1_init_42 : decode cX1_init 42 = .ok (.bipush 16, 2) := by decide +kernel
theorem dX1_init_44 : decode cX1_init 44 = .ok (.newarray .int, 2) := by decide +kernel
theorem dX1_init_46 : decode cX1_init 46 = .ok (.putfield 29, 3) := by decide +kernel
theorem dX1_init_49 : decode cX1_init 49 = .ok (.aload_n 0, 1) := by decide +kernel
theorem dX1_init_50 : decode cX1_init 50 = .ok (.aload_n 1, 1) := by decide +kernel
theorem dX1_init_51 : decode cX1_init 51 = .ok (.putfield 32, 3) := by decide +kernel
theorem dX1_init_54 : decode cX1_init 54 = .ok (.aload_n 0, 1) := by decide +kernel
theorem dX1_init_55 : decode cX1_init 55 = .ok (.aload_n 2, 1) := by decide +kernel
theorem dX1_init_56 : decode cX1_init 56 = .ok (.putfield 36, 3) := by decide +kernel
theorem dX1_init_59 : decode cX1_init 59 = .ok (.iconst 0, 1) := by decide +kernel
theorem dX1_init_60 : decode cX1_init 60 = .ok (.istore_n 3, 1) := by decide +kernel
theorem dX1_init_61 : decode cX1_init 61 = .ok (.iload_n 3, 1) := by decide +kernel
theorem dX1_init_62 : decode cX1_init 62 = .ok (.bipush 16, 2) := by decide +kernel
theorem dX1_init_64 : decode cX1_init 64 = .ok (.if_icmp .ge 35, 3) := by decide +kernel
theorem dX1_init_67 : decode cX1_init 67 = .ok (.aload_n 0, 1) := by decide +kernel
theorem dX1_init_68 : decode cX1_init 68 = .ok (.getfield 11, 3) := by decide +kernel
theorem dX1_init_71 : decode cX1_init 71 = .ok (.iload_n 3, 1) := by decide +kernel
theorem dX1_init_72 : decode cX1_init 72 = .ok (.new 9, 3) := by decide +kernel
theorem dX1_init_75 : decode cX1_init 75 = .ok (.dup, 1) := by decide +kernel
theorem dX1_init_76 : decode cX1_init 76 = .ok (.invokespecial 21, 3) := by decide +kernel
theorem dX1_init_79 : decode cX1_init 79 = .ok (.aastore, 1) := by decide +kernel
theorem dX1_init_80 : decode cX1_init 80 = .ok (.aload_n 0, 1) := by decide +kernel
theorem dX1_init_81 : decode cX1_init 81 = .ok (.getfield 26, 3) := by decide +kernel
theorem dX1_init_84 : decode cX1_init 84 = .ok (.iload_n 3, 1) := by decide +kernel
theorem dX1_init_85 : decode cX1_init 85 = .ok (.new 9, 3) := by decide +kernel
theorem dX1_init_88 : decode cX1_init 88 = .ok (.dup, 1) := by decide +kernel
theorem dX1_init_89 : decode cX1_init 89 = .ok (.invokespecial 21, 3) := by decide +kernel
theorem dX1_init_92 : decode cX1_init 92 = .ok (.aastore, 1) := by decide +kernel
theorem dX1_init_93 : decode cX1_init 93 = .ok (.iinc 3 1, 3) := by decide +kernel
theorem dX1_init_96 : decode cX1_init 96 = .ok (.goto (-35), 3) := by decide +kernel
theorem dX1_init_99 : decode cX1_init 99 = .ok (.return_, 1) := by decide +kernel
set_option maxHeartbeats 8000000 in
set_option maxRecDepth 100000 in
theorem kc_X1 (l : Launch) (D : va_G) (cy : Nat → ClassId) (ld : Nat → Nat) (t : tk_T) (X : List Nat) (a0 K a1 a2 : Nat) (ht_a0 : t a0 = (2, 0, 0)) (hH : rH1 ld t K) (ht_a1 : t a1 = (3, 0, 0)) (hl_20 : ld 20 = a1) (ht_a2 : t a2 = (9, 0, 0)) (hX : ∀ q : Nat, a0 ≤ q → q ∉ X) : Met l yX1_init (wl yX1_init cX1_init 4 none) ({ frames := 4, cells := 169, slots := 1285, locals := 210 }) (rcp D cy ld t X [.ref a0, .ref a1, .ref a2] a0 1 [.int 0, .null, .null, .null, .null, .int 0, .null, .null, .null, .int 0, .int 0] K) (rcq D cy ld t X a0 K (K + 169)) 169 1285 (fun q => q = a0 ∨ K ≤ q) := by
  refine rc_met (y := yX1_init) (cc := cX1_init) (maxL := 4) (ret := none) (av := [.ref a0, .ref a1, .ref a2]) _ (by decide) (Nat.le_of_ble_eq_true rfl) ?_
  intro p e s m args below meth c hx hb hr hml hts htl hown hlocks hin hK H locs hbn hG hat_a0 hS ls hl
  have hown : s.vm.findClass RX1 = some m.cls := hown
  have hin : meth.name = "<init>" := hin
  have hl : lv_has ls 4 [(0, .ref a0), (1, .ref a1), (2, .ref a2)] := hl
  obtain ⟨ht0, ht1, ht2, hs3, ht7, ht8, ht9, hs10, ht14, hs15, ht19, hs20, ht24, hs25, ht29, hs30, ht34, hs35, ht39, hs40, ht44, hs45, ht49, hs50, ht54, hs55, ht59, hs60, ht64, hs65, ht69, hs70, ht74, hs75, ht79, hs80, ht84, hs85, ht89, hs90, ht94, hs95, ht99, hs100, ht104, hs105, ht109, hs110, ht114, hs115, ht119, hs120, ht124, hs125, ht129, hs130, ht134, hs135, ht139, hs140, ht144, hs145, ht149, hs150, ht154, hs155, ht159, hs160, ht164, hs165⟩ := hH
  refine lv_aload_n hx hb dX1_init_0 rfl (lv_at hl 0 rfl) ?_
  refine W.objInit hx hb hown (htl _ mw_107) (htl _ mw_10) (htl _ mw_11) rfl (by rw [hml]; exact hl.1) rfl dX1_init_1 (Nat.le_of_ble_eq_true rfl) (Nat.le_of_ble_eq_true rfl) ?_
  refine W.eq (g2 := F0 m 4 ls []) rfl ?_
  refine lv_aload_n hx hb dX1_init_4 rfl (lv_at hl 0 rfl) ?_
  refine lv_bipush (v := 16) hx hb dX1_init_5 (by decide) ?_
  refine rc_newq (N' := 16) hx hb hown (htl _ mw_108) hK.2.1.1 hK hG hS 3 rfl (by decide) (by decide) (Nat.le_of_ble_eq_true rfl) (Nat.le_of_ble_eq_true rfl) (Nat.le_of_ble_eq_true rfl) dX1_init_7 (fun H hG hat_n oq hS => ?_)
  have hat_a0 : va_at D vwCl (a0, .inr (1, [.int 0, .null, .null, .null, .null, .int 0, .null, .null, .null, .int 0, .int 0])) H := hat_a0.kept (oq _ (by omega))
  refine W.widen (k := 1) (n := 16) (Nat.le_of_ble_eq_true rfl) (Nat.le_of_ble_eq_true rfl) ?_
  have hG : rc_G D cy ld t (K :: a0 :: X) (K + 1) H := hG
  have hat_K : va_at D vwCl (K, .inl (cy 3, 16, .inr (.inr (.inr (.inr (fun _ => none)))))) H := hat_n
  refine rc_putF (ci := 1) (v := .ref K) (ty := .array (.object "CradleDuel$Stand")) (C := RX1) (T := TX1) (N := 11) hx hb htl inX1 tyX1 tyX1_ok nmX1 hown hK hat_a0 rfl 3 (by decide) (htl _ mw_109) (fun _ h9 => h9) rfl hin rfl (tyX1_ok 3 (by decide)) rfl rfl (Nat.le_of_ble_eq_true rfl) dX1_init_10 (fun H j9 hat_n z9 oq => ?_)
  have hS := hS.put (k := j9) z9 oq (by show _ = _ ∨ _ ≤ _; omega)
  have hat_K : va_at D vwCl (K, .inl (cy 3, 16, .inr (.inr (.inr (.inr (fun _ => none)))))) H := hat_K.kept (oq _ (by omega))
  have hat_a0 : va_at D vwCl (a0, .inr (1, [.int 0, .null, .null, .ref K, .null, .int 0, .null, .null, .null, .int 0, .int 0])) H := hat_n
  have hG : rc_G D cy ld t (K :: a0 :: X) (K + 1) H := hG.ajar (by simp) z9 oq
  refine lv_aload_n hx hb dX1_init_13 rfl (lv_at hl 0 rfl) ?_
  refine lv_bipush (v := 16) hx hb dX1_init_14 (by decide) ?_
  refine rc_newa hx hb (htl _ mw_32) rfl hK hG hS 0 rfl (fun _ h => h) (a0 := (16, .inl (fun _ => 0))) (fun _ => rfl) (by decide) (by decide) (Nat.le_of_ble_eq_true rfl) (Nat.le_of_ble_eq_true rfl) (Nat.le_of_ble_eq_true rfl) dX1_init_16 (fun H hG hat_n oq hS => ?_)
  have hat_a0 : va_at D vwCl (a0, .inr (1, [.int 0, .null, .null, .ref K, .null, .int 0, .null, .null, .null, .int 0, .int 0])) H := hat_a0.kept (oq _ (by omega))
  have hat_K : va_at D vwCl (K, .inl (cy 3, 16, .inr (.inr (.inr (.inr (fun _ => none)))))) H := hat_K.kept (oq _ (by omega))
  refine W.widen (k := 2) (n := 32) (Nat.le_of_ble_eq_true rfl) (Nat.le_of_ble_eq_true rfl) ?_
  have hG : rc_G D cy ld t (K :: a0 :: X) (K + 2) H := rc_G.close hG hat_n ht1 (rc_arr (by decide) (by decide) (fun j hj => trivial))
  refine rc_putF (ci := 1) (v := .ref (K + 1)) (ty := .array (.int)) (C := RX1) (T := TX1) (N := 11) hx hb htl inX1 tyX1 tyX1_ok nmX1 hown hK hat_a0 rfl 4 (by decide) (htl _ mw_110) (fun _ h9 => h9) rfl hin rfl (tyX1_ok 4 (by decide)) rfl rfl (Nat.le_of_ble_eq_true rfl) dX1_init_18 (fun H j9 hat_n z9 oq => ?_)
  have hS := hS.put (k := j9) z9 oq (by show _ = _ ∨ _ ≤ _; omega)
  have hat_K : va_at D vwCl (K, .inl (cy 3, 16, .inr (.inr (.inr (.inr (fun _ => none)))))) H := hat_K.kept (oq _ (by omega))
  have hat_a0 : va_at D vwCl (a0, .inr (1, [.int 0, .null, .null, .ref K, .ref (K + 1), .int 0, .null, .null, .null, .int 0, .int 0])) H := hat_n
  have hG : rc_G D cy ld t (K :: a0 :: X) (K + 2) H := hG.ajar (by simp) z9 oq
  refine lv_aload_n hx hb dX1_init_21 rfl (lv_at hl 0 rfl) ?_
  refine rc_new (ci := 9) (fs := [.null, .null, .null, .null, .int 0, .int 0, .int 0, .int 0, .int 0, .int 0, .int 0]) (C := RX9) (T := TX9) (N := 11) hx hb htl inX9 tyX9 tyX9_ok hown (htl _ mw_108) (htl _ mw_75) (htl _ mw_76) hK hG hS rfl dfX9 (Nat.le_of_ble_eq_true rfl) (Nat.le_of_ble_eq_true rfl) dX1_init_22 (fun H hG hat_n oq hS => ?_)
  have hat_a0 : va_at D vwCl (a0, .inr (1, [.int 0, .null, .null, .ref K, .ref (K + 1), .int 0, .null, .null, .null, .int 0, .int 0])) H := hat_a0.kept (oq _ (by omega))
  have hat_K : va_at D vwCl (K, .inl (cy 3, 16, .inr (.inr (.inr (.inr (fun _ => none)))))) H := hat_K.kept (oq _ (by omega))
  refine W.widen (k := 3) (n := 43) (Nat.le_of_ble_eq_true rfl) (Nat.le_of_ble_eq_true rfl) ?_
  have hG : rc_G D cy ld t ((K + 2) :: K :: a0 :: X) (K + 3) H := hG
  have hat_K2 : va_at D vwCl ((K + 2), .inr (9, [.null, .null, .null, .null, .int 0, .int 0, .int 0, .int 0, .int 0, .int 0, .int 0])) H := hat_n
  refine lv_dup hx hb dX1_init_25 rfl ?_
  have hXX := kc_X9 l D cy ld t (K :: a0 :: X) (K + 2) (K + 3) 2 ht2 hs3  (fun q hq => rc_nin (by omega) (rc_nin (by omega) (hX q (by omega))))
  refine rc_I (As := []) (rest := [.ref (K + 2), .ref a0]) (ci := 9) (n1 := (K + 7)) ⟨hx, hb, hml, hown, hts⟩ hK hG hat_K2 hS (fun q h9 => by show _ = _ ∨ _ ≤ _; omega) hXX ⟨callB_of 0 hts (wl_in mw_80) rfl rfl rfl (htl _ mw_76) (htl _ mw_116) hd_yX9_init ⟨(Nat.le_of_ble_eq_true rfl), (Nat.le_of_ble_eq_true rfl)⟩, rfl, htl _ mw_79⟩ rfl hl.1 rfl (Nat.le_of_ble_eq_true rfl) dX1_init_26 ⟨(Nat.le_of_ble_eq_true rfl), (Nat.le_of_ble_eq_true rfl)⟩ (fun H locs hG oq hS => ?_)
  have hat_a0 : va_at D vwCl (a0, .inr (1, [.int 0, .null, .null, .ref K, .ref (K + 1), .int 0, .null, .null, .null, .int 0, .int 0])) H := hat_a0.kept (oq _ (by omega) (by omega))
  have hat_K : va_at D vwCl (K, .inl (cy 3, 16, .inr (.inr (.inr (.inr (fun _ => none)))))) H := hat_K.kept (oq _ (by omega) (by omega))
  refine W.widen (k := 7) (n := 69) (Nat.le_of_ble_eq_true rfl) (Nat.le_of_ble_eq_true rfl) ?_
  have hG : rc_G D cy ld t (K :: a0 :: X) (K + 7) H := hG
  refine rc_putF (ci := 1) (v := .ref (K + 2)) (ty := .object "CradleDuel$Stand") (C := RX1) (T := TX1) (N := 11) hx hb htl inX1 tyX1 tyX1_ok nmX1 hown hK hat_a0 rfl 6 (by decide) (htl _ mw_111) (fun _ h9 => h9) rfl hin rfl (tyX1_ok 6 (by decide)) rfl rfl (Nat.le_of_ble_eq_true rfl) dX1_init_29 (fun H j9 hat_n z9 oq => ?_)
  have hS := hS.put (k := j9) z9 oq (by show _ = _ ∨ _ ≤ _; omega)
  have hat_K : va_at D vwCl (K, .inl (cy 3, 16, .inr (.inr (.inr (.inr (fun _ => none)))))) H := hat_K.kept (oq _ (by omega))
  have hat_a0 : va_at D vwCl (a0, .inr (1, [.int 0, .null, .null, .ref K, .ref (K + 1), .int 0, .ref (K + 2), .null, .null, .int 0, .int 0])) H := hat_n
  have hG : rc_G D cy ld t (K :: a0 :: X) (K + 7) H := hG.ajar (by simp) z9 oq
  refine lv_aload_n hx hb dX1_init_32 rfl (lv_at hl 0 rfl) ?_
  refine lv_bipush (v := 16) hx hb dX1_init_33 (by decide) ?_
  refine rc_newq (N' := 16) hx hb hown (htl _ mw_108) hK.2.1.1 hK hG hS 3 rfl (by decide) (by decide) (Nat.le_of_ble_eq_true rfl) (Nat.le_of_ble_eq_true rfl) (Nat.le_of_ble_eq_true rfl) dX1_init_35 (fun H hG hat_n oq hS => ?_)
  have hat_a0 : va_at D vwCl (a0, .inr (1, [.int 0, .null, .null, .ref K, .ref (K + 1), .int 0, .ref (K + 2), .null, .null, .int 0, .int 0])) H := hat_a0.kept (oq _ (by omega))
  have hat_K : va_at D vwCl (K, .inl (cy 3, 16, .inr (.inr (.inr (.inr (fun _ => none)))))) H := hat_K.kept (oq _ (by omega))
  refine W.widen (k := 8) (n := 85) (Nat.le_of_ble_eq_true rfl) (Nat.le_of_ble_eq_true rfl) ?_
  have hG : rc_G D cy ld t ((K + 7) :: K :: a0 :: X) (K + 8) H := hG
  have hat_K7 : va_at D vwCl ((K + 7), .inl (cy 3, 16, .inr (.inr (.inr (.inr (fun _ => none)))))) H := hat_n
  refine rc_putF (ci := 1) (v := .ref (K + 7)) (ty := .array (.object "CradleDuel$Stand")) (C := RX1) (T := TX1) (N := 11) hx hb htl inX1 tyX1 tyX1_ok nmX1 hown hK hat_a0 rfl 7 (by decide) (htl _ mw_112) (fun _ h9 => h9) rfl hin rfl (tyX1_ok 7 (by decide)) rfl rfl (Nat.le_of_ble_eq_true rfl) dX1_init_38 (fun H j9 hat_n z9 oq => ?_)
  have hS := hS.put (k := j9) z9 oq (by show _ = _ ∨ _ ≤ _; omega)
  have hat_K : va_at D vwCl (K, .inl (cy 3, 16, .inr (.inr (.inr (.inr (fun _ => none)))))) H := hat_K.kept (oq _ (by omega))
  have hat_K7 : va_at D vwCl ((K + 7), .inl (cy 3, 16, .inr (.inr (.inr (.inr (fun _ => none)))))) H := hat_K7.kept (oq _ (by omega))
  have hat_a0 : va_at D vwCl (a0, .inr (1, [.int 0, .null, .null, .ref K, .ref (K + 1), .int 0, .ref (K + 2), .ref (K + 7), .null, .int 0, .int 0])) H := hat_n
  have hG : rc_G D cy ld t ((K + 7) :: K :: a0 :: X) (K + 8) H := hG.ajar (by simp) z9 oq
  refine lv_aload_n hx hb dX1_init_41 rfl (lv_at hl 0 rfl) ?_
  refine lv_bipush (v := 16) hx hb dX1_init_42 (by decide) ?_
  refine rc_newa hx hb (htl _ mw_32) rfl hK hG hS 0 rfl (fun _ h => h) (a0 := (16, .inl (fun _ => 0))) (fun _ => rfl) (by decide) (by decide) (Nat.le_of_ble_eq_true rfl) (Nat.le_of_ble_eq_true rfl) (Nat.le_of_ble_eq_true rfl) dX1_init_44 (fun H hG hat_n oq hS => ?_)
  have hat_a0 : va_at D vwCl (a0, .inr (1, [.int 0, .null, .null, .ref K, .ref (K + 1), .int 0, .ref (K + 2), .ref (K + 7), .null, .int 0, .int 0])) H := hat_a0.kept (oq _ (by omega))
  have hat_K : va_at D vwCl (K, .inl (cy 3, 16, .inr (.inr (.inr (.inr (fun _ => none)))))) H := hat_K.kept (oq _ (by omega))
  have hat_K7 : va_at D vwCl ((K + 7), .inl (cy 3, 16, .inr (.inr (.inr (.inr (fun _ => none)))))) H := hat_K7.kept (oq _ (by omega))
  refine W.widen (k := 9) (n := 101) (Nat.le_of_ble_eq_true rfl) (Nat.le_of_ble_eq_true rfl) ?_
  have hG : rc_G D cy ld t ((K + 7) :: K :: a0 :: X) (K + 9) H := rc_G.close hG hat_n ht8 (rc_arr (by decide) (by decide) (fun j hj => trivial))
  refine rc_putF (ci := 1) (v := .ref (K + 8)) (ty := .array (.int)) (C := RX1) (T := TX1) (N := 11) hx hb htl inX1 tyX1 tyX1_ok nmX1 hown hK hat_a0 rfl 8 (by decide) (htl _ mw_113) (fun _ h9 => h9) rfl hin rfl (tyX1_ok 8 (by decide)) rfl rfl (Nat.le_of_ble_eq_true rfl) dX1_init_46 (fun H j9 hat_n z9 oq => ?_)
  have hS := hS.put (k := j9) z9 oq (by show _ = _ ∨ _ ≤ _; omega)
  have hat_K : va_at D vwCl (K, .inl (cy 3, 16, .inr (.inr (.inr (.inr (fun _ => none)))))) H := hat_K.kept (oq _ (by omega))
  have hat_K7 : va_at D vwCl ((K + 7), .inl (cy 3, 16, .inr (.inr (.inr (.inr (fun _ => none)))))) H := hat_K7.kept (oq _ (by omega))
  have hat_a0 : va_at D vwCl (a0, .inr (1, [.int 0, .null, .null, .ref K, .ref (K + 1), .int 0, .ref (K + 2), .ref (K + 7), .ref (K + 8), .int 0, .int 0])) H := hat_n
  have hG : rc_G D cy ld t ((K + 7) :: K :: a0 :: X) (K + 9) H := hG.ajar (by simp) z9 oq
  refine lv_aload_n hx hb dX1_init_49 rfl (lv_at hl 0 rfl) ?_
  refine lv_aload_n hx hb dX1_init_50 rfl (lv_at hl 1 rfl) ?_
  refine rc_putF (ci := 1) (v := .ref a1) (ty := .object "CradleDuel$Hills") (C := RX1) (T := TX1) (N := 11) hx hb htl inX1 tyX1 tyX1_ok nmX1 hown hK hat_a0 rfl 1 (by decide) (htl _ mw_114) (fun _ h9 => h9) rfl hin rfl (tyX1_ok 1 (by decide)) rfl rfl (Nat.le_of_ble_eq_true rfl) dX1_init_51 (fun H j9 hat_n z9 oq => ?_)
  have hS := hS.put (k := j9) z9 oq (by show _ = _ ∨ _ ≤ _; omega)
  have hat_K : va_at D vwCl (K, .inl (cy 3, 16, .inr (.inr (.inr (.inr (fun _ => none)))))) H := hat_K.kept (oq _ (by omega))
  have hat_K7 : va_at D vwCl ((K + 7), .inl (cy 3, 16, .inr (.inr (.inr (.inr (fun _ => none)))))) H := hat_K7.kept (oq _ (by omega))
  have hat_a0 : va_at D vwCl (a0, .inr (1, [.int 0, .ref a1, .null, .ref K, .ref (K + 1), .int 0, .ref (K + 2), .ref (K + 7), .ref (K + 8), .int 0, .int 0])) H := hat_n
  have hG : rc_G D cy ld t ((K + 7) :: K :: a0 :: X) (K + 9) H := hG.ajar (by simp) z9 oq
  refine lv_aload_n hx hb dX1_init_54 rfl (lv_at hl 0 rfl) ?_
  refine lv_aload_n hx hb dX1_init_55 rfl (lv_at hl 2 rfl) ?_
  refine rc_putF (ci := 1) (v := .ref a2) (ty := .object "CradleDuel$Singing") (C := RX1) (T := TX1) (N := 11) hx hb htl inX1 tyX1 tyX1_ok nmX1 hown hK hat_a0 rfl 2 (by decide) (htl _ mw_115) (fun _ h9 => h9) rfl hin rfl (tyX1_ok 2 (by decide)) rfl rfl (Nat.le_of_ble_eq_true rfl) dX1_init_56 (fun H j9 hat_n z9 oq => ?_)
  have hS := hS.put (k := j9) z9 oq (by show _ = _ ∨ _ ≤ _; omega)
  have hat_K : va_at D vwCl (K, .inl (cy 3, 16, .inr (.inr (.inr (.inr (fun _ => none)))))) H := hat_K.kept (oq _ (by omega))
  have hat_K7 : va_at D vwCl ((K + 7), .inl (cy 3, 16, .inr (.inr (.inr (.inr (fun _ => none)))))) H := hat_K7.kept (oq _ (by omega))
  have hat_a0 : va_at D vwCl (a0, .inr (1, [.int 0, .ref a1, .ref a2, .ref K, .ref (K + 1), .int 0, .ref (K + 2), .ref (K + 7), .ref (K + 8), .int 0, .int 0])) H := hat_n
  have hG : rc_G D cy ld t ((K + 7) :: K :: a0 :: X) (K + 9) H := hG.ajar (by simp) z9 oq
  refine lv_iconst (v := 0) hx hb dX1_init_59 (by decide) ?_
  refine lv_istore_n (lv' := [(3, .int 0), (0, .ref a0), (1, .ref a1), (2, .ref a2)]) hx hb dX1_init_60 rfl hl (by decide) rfl (fun ls hl => ?_)
  refine lv_iload_n hx hb dX1_init_61 rfl (lv_at hl 0 rfl) ?_
  refine lv_bipush (v := 16) hx hb dX1_init_62 (by decide) ?_
  refine lv_icmp_ge (tgt := 99) hx hb dX1_init_64 (by decide) (fun c9 => absurd c9 (by decide)) (fun _ => ?_)
  refine lv_aload_n hx hb dX1_init_67 rfl (lv_at hl 1 rfl) ?_
  refine va_get (ci := 1) (C := RX1) (T := TX1) (N := 11) hx hb htl inX1 hown hK.1 (tk_one hat_a0) 0 rfl rfl 3 (by decide) (htl _ mw_109) (fun _ h9 => h9) rfl dX1_init_68 ?_
  refine lv_iload_n hx hb dX1_init_71 rfl (lv_at hl 0 rfl) ?_
  refine rc_new (ci := 9) (fs := [.null, .null, .null, .null, .int 0, .int 0, .int 0, .int 0, .int 0, .int 0, .int 0]) (C := RX9) (T := TX9) (N := 11) hx hb htl inX9 tyX9 tyX9_ok hown (htl _ mw_108) (htl _ mw_75) (htl _ mw_76) hK hG hS rfl dfX9 (Nat.le_of_ble_eq_true rfl) (Nat.le_of_ble_eq_true rfl) dX1_init_72 (fun H hG hat_n oq hS => ?_)
  have hat_a0 : va_at D vwCl (a0, .inr (1, [.int 0, .ref a1, .ref a2, .ref K, .ref (K + 1), .int 0, .ref (K + 2), .ref (K + 7), .ref (K + 8), .int 0, .int 0])) H := hat_a0.kept (oq _ (by omega))
  have hat_K : va_at D vwCl (K, .inl (cy 3, 16, .inr (.inr (.inr (.inr (fun _ => none)))))) H := hat_K.kept (oq _ (by omega))
  have hat_K7 : va_at D vwCl ((K + 7), .inl (cy 3, 16, .inr (.inr (.inr (.inr (fun _ => none)))))) H := hat_K7.kept (oq _ (by omega))
  refine W.widen (k := 10) (n := 112) (Nat.le_of_ble_eq_true rfl) (Nat.le_of_ble_eq_true rfl) ?_
  have hG : rc_G D cy ld t ((K + 9) :: (K + 7) :: K :: a0 :: X) (K + 10) H := hG
  have hat_K9 : va_at D vwCl ((K + 9), .inr (9, [.null, .null, .null, .null, .int 0, .int 0, .int 0, .int 0, .int 0, .int 0, .int 0])) H := hat_n
  refine lv_dup hx hb dX1_init_75 rfl ?_
  have hXX := kc_X9 l D cy ld t ((K + 7) :: K :: a0 :: X) (K + 9) (K + 10) 1 ht9 hs10  (fun q hq => rc_nin (by omega) (rc_nin (by omega) (rc_nin (by omega) (hX q (by omega)))))
  refine rc_I (As := []) (rest := [.ref (K + 9), .int 0, .ref K]) (ci := 9) (n1 := (K + 14)) ⟨hx, hb, hml, hown, hts⟩ hK hG hat_K9 hS (fun q h9 => by show _ = _ ∨ _ ≤ _; omega) hXX ⟨callB_of 0 hts (wl_in mw_80) rfl rfl rfl (htl _ mw_76) (htl _ mw_116) hd_yX9_init ⟨(Nat.le_of_ble_eq_true rfl), (Nat.le_of_ble_eq_true rfl)⟩, rfl, htl _ mw_79⟩ rfl hl.1 rfl (Nat.le_of_ble_eq_true rfl) dX1_init_76 ⟨(Nat.le_of_ble_eq_true rfl), (Nat.le_of_ble_eq_true rfl)⟩ (fun H locs hG oq hS => ?_)
  have hat_a0 : va_at D vwCl (a0, .inr (1, [.int 0, .ref a1, .ref a2, .ref K, .ref (K + 1), .int 0, .ref (K + 2), .ref (K + 7), .ref (K + 8), .int 0, .int 0])) H := hat_a0.kept (oq _ (by omega) (by omega))
  have hat_K : va_at D vwCl (K, .inl (cy 3, 16, .inr (.inr (.inr (.inr (fun _ => none)))))) H := hat_K.kept (oq _ (by omega) (by omega))
  have hat_K7 : va_at D vwCl ((K + 7), .inl (cy 3, 16, .inr (.inr (.inr (.inr (fun _ => none)))))) H := hat_K7.kept (oq _ (by omega) (by omega))
  refine W.widen (k := 14) (n := 138) (Nat.le_of_ble_eq_true rfl) (Nat.le_of_ble_eq_true rfl) ?_
  have hG : rc_G D cy ld t ((K + 7) :: K :: a0 :: X) (K + 14) H := hG
  obtain ⟨fs9, hv9, -⟩ := hG.obj (ci := 9) ht9 (by decide) (by omega) (rc_nin (by omega) ( rc_nin (by omega) ( rc_nin (by omega) (hX _ (by omega)))))
  refine rc_aast (ci := 9) (r := (RX9, TX9, 11)) hx hb hK 3 hat_K rfl hv9 rfl (fx_in (by decide)) dX1_init_79 (fun H j9 hat_n z9 oq => ?_)
  have hS := hS.put (k := j9) z9 oq (by show _ = _ ∨ _ ≤ _; omega)
  have hat_a0 : va_at D vwCl (a0, .inr (1, [.int 0, .ref a1, .ref a2, .ref K, .ref (K + 1), .int 0, .ref (K + 2), .ref (K + 7), .ref (K + 8), .int 0, .int 0])) H := hat_a0.kept (oq _ (by omega))
  have hat_K7 : va_at D vwCl ((K + 7), .inl (cy 3, 16, .inr (.inr (.inr (.inr (fun _ => none)))))) H := hat_K7.kept (oq _ (by omega))
  have hat_K : va_at D vwCl (K, .inl (cy 3, 16, .inr (.inr (.inr (.inr (va_up (fun _ => none) (0 : Int32).toNatClampNeg (some (K + 9)))))))) H := hat_n
  have hG : rc_G D cy ld t ((K + 7) :: K :: a0 :: X) (K + 14) H := hG.ajar (by simp) z9 oq
  refine lv_aload_n hx hb dX1_init_80 rfl (lv_at hl 1 rfl) ?_
  refine va_get (ci := 1) (C := RX1) (T := TX1) (N := 11) hx hb htl inX1 hown hK.1 (tk_one hat_a0) 0 rfl rfl 7 (by decide) (htl _ mw_112) (fun _ h9 => h9) rfl dX1_init_81 ?_
  refine lv_iload_n hx hb dX1_init_84 rfl (lv_at hl 0 rfl) ?_
  refine rc_new (ci := 9) (fs := [.null, .null, .null, .null, .int 0, .int 0, .int 0, .int 0, .int 0, .int 0, .int 0]) (C := RX9) (T := TX9) (N := 11) hx hb htl inX9 tyX9 tyX9_ok hown (htl _ mw_108) (htl _ mw_75) (htl _ mw_76) hK hG hS rfl dfX9 (Nat.le_of_ble_eq_true rfl) (Nat.le_of_ble_eq_true rfl) dX1_init_85 (fun H hG hat_n oq hS => ?_)
  have hat_a0 : va_at D vwCl (a0, .inr (1, [.int 0, .ref a1, .ref a2, .ref K, .ref (K + 1), .int 0, .ref (K + 2), .ref (K + 7), .ref (K + 8), .int 0, .int 0])) H := hat_a0.kept (oq _ (by omega))
  have hat_K : va_at D vwCl (K, .inl (cy 3, 16, .inr (.inr (.inr (.inr (va_up (fun _ => none) (0 : Int32).toNatClampNeg (some (K + 9)))))))) H := hat_K.kept (oq _ (by omega))
  have hat_K7 : va_at D vwCl ((K + 7), .inl (cy 3, 16, .inr (.inr (.inr (.inr (fun _ => none)))))) H := hat_K7.kept (oq _ (by omega))
  refine W.widen (k := 15) (n := 149) (Nat.le_of_ble_eq_true rfl) (Nat.le_of_ble_eq_true rfl) ?_
  have hG : rc_G D cy ld t ((K + 14) :: (K + 7) :: K :: a0 :: X) (K + 15) H := hG
  have hat_K14 : va_at D vwCl ((K + 14), .inr (9, [.null, .null, .null, .null, .int 0, .int 0, .int 0, .int 0, .int 0, .int 0, .int 0])) H := hat_n
  refine lv_dup hx hb dX1_init_88 rfl ?_
  have hXX := kc_X9 l D cy ld t ((K + 7) :: K :: a0 :: X) (K + 14) (K + 15) 3 ht14 hs15  (fun q hq => rc_nin (by omega) (rc_nin (by omega) (rc_nin (by omega) (hX q (by omega)))))
  refine rc_I (As := []) (rest := [.ref (K + 14), .int 0, .ref (K + 7)]) (ci := 9) (n1 := (K + 19)) ⟨hx, hb, hml, hown, hts⟩ hK hG hat_K14 hS (fun q h9 => by show _ = _ ∨ _ ≤ _; omega) hXX ⟨callB_of 0 hts (wl_in mw_80) rfl rfl rfl (htl _ mw_76) (htl _ mw_116) hd_yX9_init ⟨(Nat.le_of_ble_eq_true rfl), (Nat.le_of_ble_eq_true rfl)⟩, rfl, htl _ mw_79⟩ rfl hl.1 rfl (Nat.le_of_ble_eq_true rfl) dX1_init_89 ⟨(Nat.le_of_ble_eq_true rfl), (Nat.le_of_ble_eq_true rfl)⟩ (fun H locs hG oq hS => ?_)
  have hat_a0 : va_at D vwCl (a0, .inr (1, [.int 0, .ref a1, .ref a2, .ref K, .ref (K + 1), .int 0, .ref (K + 2), .ref (K + 7), .ref (K + 8), .int 0, .int 0])) H := hat_a0.kept (oq _ (by omega) (by omega))
  have hat_K : va_at D vwCl (K, .inl (cy 3, 16, .inr (.inr (.inr (.inr (va_up (fun _ => none) (0 : Int32).toNatClampNeg (some (K + 9)))))))) H := hat_K.kept (oq _ (by omega) (by omega))
  have hat_K7 : va_at D vwCl ((K + 7), .inl (cy 3, 16, .inr (.inr (.inr (.inr (fun _ => none)))))) H := hat_K7.kept (oq _ (by omega) (by omega))
  refine W.widen (k := 19) (n := 175) (Nat.le_of_ble_eq_true rfl) (Nat.le_of_ble_eq_true rfl) ?_
  have hG : rc_G D cy ld t ((K + 7) :: K :: a0 :: X) (K + 19) H := hG
  obtain ⟨fs9, hv9, -⟩ := hG.obj (ci := 9) ht14 (by decide) (by omega) (rc_nin (by omega) ( rc_nin (by omega) ( rc_nin (by omega) (hX _ (by omega)))))
  refine rc_aast (ci := 9) (r := (RX9, TX9, 11)) hx hb hK 3 hat_K7 rfl hv9 rfl (fx_in (by decide)) dX1_init_92 (fun H j9 hat_n z9 oq => ?_)
  have hS := hS.put (k := j9) z9 oq (by show _ = _ ∨ _ ≤ _; omega)
  have hat_a0 : va_at D vwCl (a0, .inr (1, [.int 0, .ref a1, .ref a2, .ref K, .ref (K + 1), .int 0, .ref (K + 2), .ref (K + 7), .ref (K + 8), .int 0, .int 0])) H := hat_a0.kept (oq _ (by omega))
  have hat_K : va_at D vwCl (K, .inl (cy 3, 16, .inr (.inr (.inr (.inr (va_up (fun _ => none) (0 : Int32).toNatClampNeg (some (K + 9)))))))) H := hat_K.kept (oq _ (by omega))
  have hat_K7 : va_at D vwCl ((K + 7), .inl (cy 3, 16, .inr (.inr (.inr (.inr (va_up (fun _ => none) (0 : Int32).toNatClampNeg (some (K + 14)))))))) H := hat_n
  have hG : rc_G D cy ld t ((K + 7) :: K :: a0 :: X) (K + 19) H := hG.ajar (by simp) z9 oq
  refine lv_iinc (v := 1) (lv' := [(3, .int 1), (0, .ref a0), (1, .ref a1), (2, .ref a2)]) hx hb dX1_init_93 hl (k := 0) rfl (by decide) (by decide) rfl (fun ls hl => ?_)
  refine lv_goto (tgt := 61) hx hb dX1_init_96 (by decide) ?_
  refine lv_iload_n hx hb dX1_init_61 rfl (lv_at hl 0 rfl) ?_
  refine lv_bipush (v := 16) hx hb dX1_init_62 (by decide) ?_
  refine lv_icmp_ge (tgt := 99) hx hb dX1_init_64 (by decide) (fun c9 => absurd c9 (by decide)) (fun _ => ?_)
  refine lv_aload_n hx hb dX1_init_67 rfl (lv_at hl 1 rfl) ?_
  refine va_get (ci := 1) (C := RX1) (T := TX1) (N := 11) hx hb htl inX1 hown hK.1 (tk_one hat_a0) 0 rfl rfl 3 (by decide) (htl _ mw_109) (fun _ h9 => h9) rfl dX1_init_68 ?_
  refine lv_iload_n hx hb dX1_init_71 rfl (lv_at hl 0 rfl) ?_
  refine rc_new (ci := 9) (fs := [.null, .null, .null, .null, .int 0, .int 0, .int 0, .int 0, .int 0, .int 0, .int 0]) (C := RX9) (T := TX9) (N := 11) hx hb htl inX9 tyX9 tyX9_ok hown (htl _ mw_108) (htl _ mw_75) (htl _ mw_76) hK hG hS rfl dfX9 (Nat.le_of_ble_eq_true rfl) (Nat.le_of_ble_eq_true rfl) dX1_init_72 (fun H hG hat_n oq hS => ?_)
  have hat_a0 : va_at D vwCl (a0, .inr (1, [.int 0, .ref a1, .ref a2, .ref K, .ref (K + 1), .int 0, .ref (K + 2), .ref (K + 7), .ref (K + 8), .int 0, .int 0])) H := hat_a0.kept (oq _ (by omega))
  have hat_K : va_at D vwCl (K, .inl (cy 3, 16, .inr (.inr (.inr (.inr (va_up (fun _ => none) (0 : Int32).toNatClampNeg (some (K + 9)))))))) H := hat_K.kept (oq _ (by omega))
  have hat_K7 : va_at D vwCl ((K + 7), .inl (cy 3, 16, .inr (.inr (.inr (.inr (va_up (fun _ => none) (0 : Int32).toNatClampNeg (some (K + 14)))))))) H := hat_K7.kept (oq _ (by omega))
  refine W.widen (k := 20) (n := 186) (Nat.le_of_ble_eq_true rfl) (Nat.le_of_ble_eq_true rfl) ?_
  have hG : rc_G D cy ld t ((K + 19) :: (K + 7) :: K :: a0 :: X) (K + 20) H := hG
  have hat_K19 : va_at D vwCl ((K + 19), .inr (9, [.null, .null, .null, .null, .int 0, .int 0, .int 0, .int 0, .int 0, .int 0, .int 0])) H := hat_n
  refine lv_dup hx hb dX1_init_75 rfl ?_
  have hXX := kc_X9 l D cy ld t ((K + 7) :: K :: a0 :: X) (K + 19) (K + 20) 1 ht19 hs20  (fun q hq => rc_nin (by omega) (rc_nin (by omega) (rc_nin (by omega) (hX q (by omega)))))
  refine rc_I (As := []) (rest := [.ref (K + 19), .int 1, .ref K]) (ci := 9) (n1 := (K + 24)) ⟨hx, hb, hml, hown, hts⟩ hK hG hat_K19 hS (fun q h9 => by show _ = _ ∨ _ ≤ _; omega) hXX ⟨callB_of 0 hts (wl_in mw_80) rfl rfl rfl (htl _ mw_76) (htl _ mw_116) hd_yX9_init ⟨(Nat.le_of_ble_eq_true rfl), (Nat.le_of_ble_eq_true rfl)⟩, rfl, htl _ mw_79⟩ rfl hl.1 rfl (Nat.le_of_ble_eq_true rfl) dX1_init_76 ⟨(Nat.le_of_ble_eq_true rfl), (Nat.le_of_ble_eq_true rfl)⟩ (fun H locs hG oq hS => ?_)
  have hat_a0 : va_at D vwCl (a0, .inr (1, [.int 0, .ref a1, .ref a2, .ref K, .ref (K + 1), .int 0, .ref (K + 2), .ref (K + 7), .ref (K + 8), .int 0, .int 0])) H := hat_a0.kept (oq _ (by omega) (by omega))
  have hat_K : va_at D vwCl (K, .inl (cy 3, 16, .inr (.inr (.inr (.inr (va_up (fun _ => none) (0 : Int32).toNatClampNeg (some (K + 9)))))))) H := hat_K.kept (oq _ (by omega) (by omega))
  have hat_K7 : va_at D vwCl ((K + 7), .inl (cy 3, 16, .inr (.inr (.inr (.inr (va_up (fun _ => none) (0 : Int32).toNatClampNeg (some (K + 14)))))))) H := hat_K7.kept (oq _ (by omega) (by omega))
  refine W.widen (k := 24) (n := 212) (Nat.le_of_ble_eq_true rfl) (Nat.le_of_ble_eq_true rfl) ?_
  have hG : rc_G D cy ld t ((K + 7) :: K :: a0 :: X) (K + 24) H := hG
  obtain ⟨fs9, hv9, -⟩ := hG.obj (ci := 9) ht19 (by decide) (by omega) (rc_nin (by omega) ( rc_nin (by omega) ( rc_nin (by omega) (hX _ (by omega)))))
  refine rc_aast (ci := 9) (r := (RX9, TX9, 11)) hx hb hK 3 hat_K rfl hv9 rfl (fx_in (by decide)) dX1_init_79 (fun H j9 hat_n z9 oq => ?_)
  have hS := hS.put (k := j9) z9 oq (by show _ = _ ∨ _ ≤ _; omega)
  have hat_a0 : va_at D vwCl (a0, .inr (1, [.int 0, .ref a1, .ref a2, .ref K, .ref (K + 1), .int 0, .ref (K + 2), .ref (K + 7), .ref (K + 8), .int 0, .int 0])) H := hat_a0.kept (oq _ (by omega))
  have hat_K7 : va_at D vwCl ((K + 7), .inl (cy 3, 16, .inr (.inr (.inr (.inr (va_up (fun _ => none) (0 : Int32).toNatClampNeg (some (K + 14)))))))) H := hat_K7.kept (oq _ (by omega))
  have hat_K : va_at D vwCl (K, .inl (cy 3, 16, .inr (.inr (.inr (.inr (va_up (va_up (fun _ => none) (0 : Int32).toNatClampNeg (some (K + 9))) (1 : Int32).toNatClampNeg (some (K + 19)))))))) H := hat_n
  have hG : rc_G D cy ld t ((K + 7) :: K :: a0 :: X) (K + 24) H := hG.ajar (by simp) z9 oq
  refine lv_aload_n hx hb dX1_init_80 rfl (lv_at hl 1 rfl) ?_
  refine va_get (ci := 1) (C := RX1) (T := TX1) (N := 11) hx hb htl inX1 hown hK.1 (tk_one hat_a0) 0 rfl rfl 7 (by decide) (htl _ mw_112) (fun _ h9 => h9) rfl dX1_init_81 ?_
  refine lv_iload_n hx hb dX1_init_84 rfl (lv_at hl 0 rfl) ?_
  refine rc_new (ci := 9) (fs := [.null, .null, .null, .null, .int 0, .int 0, .int 0, .int 0, .int 0, .int 0, .int 0]) (C := RX9) (T := TX9) (N := 11) hx hb htl inX9 tyX9 tyX9_ok hown (htl _ mw_108) (htl _ mw_75) (htl _ mw_76) hK hG hS rfl dfX9 (Nat.le_of_ble_eq_true rfl) (Nat.le_of_ble_eq_true rfl) dX1_init_85 (fun H hG hat_n oq hS => ?_)
  have hat_a0 : va_at D vwCl (a0, .inr (1, [.int 0, .ref a1, .ref a2, .ref K, .ref (K + 1), .int 0, .ref (K + 2), .ref (K + 7), .ref (K + 8), .int 0, .int 0])) H := hat_a0.kept (oq _ (by omega))
  have hat_K : va_at D vwCl (K, .inl (cy 3, 16, .inr (.inr (.inr (.inr (va_up (va_up (fun _ => none) (0 : Int32).toNatClampNeg (some (K + 9))) (1 : Int32).toNatClampNeg (some (K + 19)))))))) H := hat_K.kept (oq _ (by omega))
  have hat_K7 : va_at D vwCl ((K + 7), .inl (cy 3, 16, .inr (.inr (.inr (.inr (va_up (fun _ => none) (0 : Int32).toNatClampNeg (some (K + 14)))))))) H := hat_K7.kept (oq _ (by omega))
  refine W.widen (k := 25) (n := 223) (Nat.le_of_ble_eq_true rfl) (Nat.le_of_ble_eq_true rfl) ?_
  have hG : rc_G D cy ld t ((K + 24) :: (K + 7) :: K :: a0 :: X) (K + 25) H := hG
  have hat_K24 : va_at D vwCl ((K + 24), .inr (9, [.null, .null, .null, .null, .int 0, .int 0, .int 0, .int 0, .int 0, .int 0, .int 0])) H := hat_n
  refine lv_dup hx hb dX1_init_88 rfl ?_
  have hXX := kc_X9 l D cy ld t ((K + 7) :: K :: a0 :: X) (K + 24) (K + 25) 3 ht24 hs25  (fun q hq => rc_nin (by omega) (rc_nin (by omega) (rc_nin (by omega) (hX q (by omega)))))
  refine rc_I (As := []) (rest := [.ref (K + 24), .int 1, .ref (K + 7)]) (ci := 9) (n1 := (K + 29)) ⟨hx, hb, hml, hown, hts⟩ hK hG hat_K24 hS (fun q h9 => by show _ = _ ∨ _ ≤ _; omega) hXX ⟨callB_of 0 hts (wl_in mw_80) rfl rfl rfl (htl _ mw_76) (htl _ mw_116) hd_yX9_init ⟨(Nat.le_of_ble_eq_true rfl), (Nat.le_of_ble_eq_true rfl)⟩, rfl, htl _ mw_79⟩ rfl hl.1 rfl (Nat.le_of_ble_eq_true rfl) dX1_init_89 ⟨(Nat.le_of_ble_eq_true rfl), (Nat.le_of_ble_eq_true rfl)⟩ (fun H locs hG oq hS => ?_)
  have hat_a0 : va_at D vwCl (a0, .inr (1, [.int 0, .ref a1, .ref a2, .ref K, .ref (K + 1), .int 0, .ref (K + 2), .ref (K + 7), .ref (K + 8), .int 0, .int 0])) H := hat_a0.kept (oq _ (by omega) (by omega))
  have hat_K : va_at D vwCl (K, .inl (cy 3, 16, .inr (.inr (.inr (.inr (va_up (va_up (fun _ => none) (0 : Int32).toNatClampNeg (some (K + 9))) (1 : Int32).toNatClampNeg (some (K + 19)))))))) H := hat_K.kept (oq _ (by omega) (by omega))
  have hat_K7 : va_at D vwCl ((K + 7), .inl (cy 3, 16, .inr (.inr (.inr (.inr (va_up (fun _ => none) (0 : Int32).toNatClampNeg (some (K + 14)))))))) H := hat_K7.kept (oq _ (by omega) (by omega))
  refine W.widen (k := 29) (n := 249) (Nat.le_of_ble_eq_true rfl) (Nat.le_of_ble_eq_true rfl) ?_
  have hG : rc_G D cy ld t ((K + 7) :: K :: a0 :: X) (K + 29) H := hG
  obtain ⟨fs9, hv9, -⟩ := hG.obj (ci := 9) ht24 (by decide) (by omega) (rc_nin (by omega) ( rc_nin (by omega) ( rc_nin (by omega) (hX _ (by omega)))))
  refine rc_aast (ci := 9) (r := (RX9, TX9, 11)) hx hb hK 3 hat_K7 rfl hv9 rfl (fx_in (by decide)) dX1_init_92 (fun H j9 hat_n z9 oq => ?_)
  have hS := hS.put (k := j9) z9 oq (by show _ = _ ∨ _ ≤ _; omega)
  have hat_a0 : va_at D vwCl (a0, .inr (1, [.int 0, .ref a1, .ref a2, .ref K, .ref (K + 1), .int 0, .ref (K + 2), .ref (K + 7), .ref (K + 8), .int 0, .int 0])) H := hat_a0.kept (oq _ (by omega))
  have hat_K : va_at D vwCl (K, .inl (cy 3, 16, .inr (.inr (.inr (.inr (va_up (va_up (fun _ => none) (0 : Int32).toNatClampNeg (some (K + 9))) (1 : Int32).toNatClampNeg (some (K + 19)))))))) H := hat_K.kept (oq _ (by omega))
  have hat_K7 : va_at D vwCl ((K + 7), .inl (cy 3, 16, .inr (.inr (.inr (.inr (va_up (va_up (fun _ => none) (0 : Int32).toNatClampNeg (some (K + 14))) (1 : Int32).toNatClampNeg (some (K + 24)))))))) H := hat_n
  have hG : rc_G D cy ld t ((K + 7) :: K :: a0 :: X) (K + 29) H := hG.ajar (by simp) z9 oq
  refine lv_iinc (v := 2) (lv' := [(3, .int 2), (0, .ref a0), (1, .ref a1), (2, .ref a2)]) hx hb dX1_init_93 hl (k := 0) rfl (by decide) (by decide) rfl (fun ls hl => ?_)
  refine lv_goto (tgt := 61) hx hb dX1_init_96 (by decide) ?_
  refine lv_iload_n hx hb dX1_init_61 rfl (lv_at hl 0 rfl) ?_
  refine lv_bipush (v := 16) hx hb dX1_init_62 (by decide) ?_
  refine lv_icmp_ge (tgt := 99) hx hb dX1_init_64 (by decide) (fun c9 => absurd c9 (by decide)) (fun _ => ?_)
  refine lv_aload_n hx hb dX1_init_67 rfl (lv_at hl 1 rfl) ?_
  refine va_get (ci := 1) (C := RX1) (T := TX1) (N := 11) hx hb htl inX1 hown hK.1 (tk_one hat_a0) 0 rfl rfl 3 (by decide) (htl _ mw_109) (fun _ h9 => h9) rfl dX1_init_68 ?_
  refine lv_iload_n hx hb dX1_init_71 rfl (lv_at hl 0 rfl) ?_
  refine rc_new (ci := 9) (fs := [.null, .null, .null, .null, .int 0, .int 0, .int 0, .int 0, .int 0, .int 0, .int 0]) (C := RX9) (T := TX9) (N := 11) hx hb htl inX9 tyX9 tyX9_ok hown (htl _ mw_108) (htl _ mw_75) (htl _ mw_76) hK hG hS rfl dfX9 (Nat.le_of_ble_eq_true rfl) (Nat.le_of_ble_eq_true rfl) dX1_init_72 (fun H hG hat_n oq hS => ?_)
  have hat_a0 : va_at D vwCl (a0, .inr (1, [.int 0, .ref a1, .ref a2, .ref K, .ref (K + 1), .int 0, .ref (K + 2), .ref (K + 7), .ref (K + 8), .int 0, .int 0])) H := hat_a0.kept (oq _ (by omega))
  have hat_K : va_at D vwCl (K, .inl (cy 3, 16, .inr (.inr (.inr (.inr (va_up (va_up (fun _ => none) (0 : Int32).toNatClampNeg (some (K + 9))) (1 : Int32).toNatClampNeg (some (K + 19)))))))) H := hat_K.kept (oq _ (by omega))
  have hat_K7 : va_at D vwCl ((K + 7), .inl (cy 3, 16, .inr (.inr (.inr (.inr (va_up (va_up (fun _ => none) (0 : Int32).toNatClampNeg (some (K + 14))) (1 : Int32).toNatClampNeg (some (K + 24)))))))) H := hat_K7.kept (oq _ (by omega))
  refine W.widen (k := 30) (n := 260) (Nat.le_of_ble_eq_true rfl) (Nat.le_of_ble_eq_true rfl) ?_
  have hG : rc_G D cy ld t ((K + 29) :: (K + 7) :: K :: a0 :: X) (K + 30) H := hG
  have hat_K29 : va_at D vwCl ((K + 29), .inr (9, [.null, .null, .null, .null, .int 0, .int 0, .int 0, .int 0, .int 0, .int 0, .int 0])) H := hat_n
  refine lv_dup hx hb dX1_init_75 rfl ?_
  have hXX := kc_X9 l D cy ld t ((K + 7) :: K :: a0 :: X) (K + 29) (K + 30) 1 ht29 hs30  (fun q hq => rc_nin (by omega) (rc_nin (by omega) (rc_nin (by omega) (hX q (by omega)))))
  refine rc_I (As := []) (rest := [.ref (K + 29), .int 2, .ref K]) (ci := 9) (n1 := (K + 34)) ⟨hx, hb, hml, hown, hts⟩ hK hG hat_K29 hS (fun q h9 => by show _ = _ ∨ _ ≤ _; omega) hXX ⟨callB_of 0 hts (wl_in mw_80) rfl rfl rfl (htl _ mw_76) (htl _ mw_116) hd_yX9_init ⟨(Nat.le_of_ble_eq_true rfl), (Nat.le_of_ble_eq_true rfl)⟩, rfl, htl _ mw_79⟩ rfl hl.1 rfl (Nat.le_of_ble_eq_true rfl) dX1_init_76 ⟨(Nat.le_of_ble_eq_true rfl), (Nat.le_of_ble_eq_true rfl)⟩ (fun H locs hG oq hS => ?_)
  have hat_a0 : va_at D vwCl (a0, .inr (1, [.int 0, .ref a1, .ref a2, .ref K, .ref (K + 1), .int 0, .ref (K + 2), .ref (K + 7), .ref (K + 8), .int 0, .int 0])) H := hat_a0.kept (oq _ (by omega) (by omega))
  have hat_K : va_at D vwCl (K, .inl (cy 3, 16, .inr (.inr (.inr (.inr (va_up (va_up (fun _ => none) (0 : Int32).toNatClampNeg (some (K + 9))) (1 : Int32).toNatClampNeg (some (K + 19)))))))) H := hat_K.kept (oq _ (by omega) (by omega))
  have hat_K7 : va_at D vwCl ((K + 7), .inl (cy 3, 16, .inr (.inr (.inr (.inr (va_up (va_up (fun _ => none) (0 : Int32).toNatClampNeg (some (K + 14))) (1 : Int32).toNatClampNeg (some (K + 24)))))))) H := hat_K7.kept (oq _ (by omega) (by omega))
  refine W.widen (k := 34) (n := 286) (Nat.le_of_ble_eq_true rfl) (Nat.le_of_ble_eq_true rfl) ?_
  have hG : rc_G D cy ld t ((K + 7) :: K :: a0 :: X) (K + 34) H := hG
  obtain ⟨fs9, hv9, -⟩ := hG.obj (ci := 9) ht29 (by decide) (by omega) (rc_nin (by omega) ( rc_nin (by omega) ( rc_nin (by omega) (hX _ (by omega)))))
  refine rc_aast (ci := 9) (r := (RX9, TX9, 11)) hx hb hK 3 hat_K rfl hv9 rfl (fx_in (by decide)) dX1_init_79 (fun H j9 hat_n z9 oq => ?_)
  have hS := hS.put (k := j9) z9 oq (by show _ = _ ∨ _ ≤ _; omega)
  have hat_a0 : va_at D vwCl (a0, .inr (1, [.int 0, .ref a1, .ref a2, .ref K, .ref (K + 1), .int 0, .ref (K + 2), .ref (K + 7), .ref (K + 8), .int 0, .int 0])) H := hat_a0.kept (oq _ (by omega))
  have hat_K7 : va_at D vwCl ((K + 7), .inl (cy 3, 16, .inr (.inr (.inr (.inr (va_up (va_up (fun _ => none) (0 : Int32).toNatClampNeg (some (K + 14))) (1 : Int32).toNatClampNeg (some (K + 24)))))))) H := hat_K7.kept (oq _ (by omega))
  have hat_K : va_at D vwCl (K, .inl (cy 3, 16, .inr (.inr (.inr (.inr (va_up (va_up (va_up (fun _ => none) (0 : Int32).toNatClampNeg (some (K + 9))) (1 : Int32).toNatClampNeg (some (K + 19))) (2 : Int32).toNatClampNeg (some (K + 29)))))))) H := hat_n
  have hG : rc_G D cy ld t ((K + 7) :: K :: a0 :: X) (K + 34) H := hG.ajar (by simp) z9 oq
  refine lv_aload_n hx hb dX1_init_80 rfl (lv_at hl 1 rfl) ?_
  refine va_get (ci := 1) (C := RX1) (T := TX1) (N := 11) hx hb htl inX1 hown hK.1 (tk_one hat_a0) 0 rfl rfl 7 (by decide) (htl _ mw_112) (fun _ h9 => h9) rfl dX1_init_81 ?_
  refine lv_iload_n hx hb dX1_init_84 rfl (lv_at hl 0 rfl) ?_
  refine rc_new (ci := 9) (fs := [.null, .null, .null, .null, .int 0, .int 0, .int 0, .int 0, .int 0, .int 0, .int 0]) (C := RX9) (T := TX9) (N := 11) hx hb htl inX9 tyX9 tyX9_ok hown (htl _ mw_108) (htl _ mw_75) (htl _ mw_76) hK hG hS rfl dfX9 (Nat.le_of_ble_eq_true rfl) (Nat.le_of_ble_eq_true rfl) dX1_init_85 (fun H hG hat_n oq hS => ?_)
  have hat_a0 : va_at D vwCl (a0, .inr (1, [.int 0, .ref a1, .ref a2, .ref K, .ref (K + 1), .int 0, .ref (K + 2), .ref (K + 7), .ref (K + 8), .int 0, .int 0])) H := hat_a0.kept (oq _ (by omega))
  have hat_K : va_at D vwCl (K, .inl (cy 3, 16, .inr (.inr (.inr (.inr (va_up (va_up (va_up (fun _ => none) (0 : Int32).toNatClampNeg (some (K + 9))) (1 : Int32).toNatClampNeg (some (K + 19))) (2 : Int32).toNatClampNeg (some (K + 29)))))))) H := hat_K.kept (oq _ (by omega))
  have hat_K7 : va_at D vwCl ((K + 7), .inl (cy 3, 16, .inr (.inr (.inr (.inr (va_up (va_up (fun _ => none) (0 : Int32).toNatClampNeg (some (K + 14))) (1 : Int32).toNatClampNeg (some (K + 24)))))))) H := hat_K7.kept (oq _ (by omega))
  refine W.widen (k := 35) (n := 297) (Nat.le_of_ble_eq_true rfl) (Nat.le_of_ble_eq_true rfl) ?_
  have hG : rc_G D cy ld t ((K + 34) :: (K + 7) :: K :: a0 :: X) (K + 35) H := hG
  have hat_K34 : va_at D vwCl ((K + 34), .inr (9, [.null, .null, .null, .null, .int 0, .int 0, .int 0, .int 0, .int 0, .int 0, .int 0])) H := hat_n
  refine lv_dup hx hb dX1_init_88 rfl ?_
  have hXX := kc_X9 l D cy ld t ((K + 7) :: K :: a0 :: X) (K + 34) (K + 35) 3 ht34 hs35  (fun q hq => rc_nin (by omega) (rc_nin (by omega) (rc_nin (by omega) (hX q (by omega)))))
  refine rc_I (As := []) (rest := [.ref (K + 34), .int 2, .ref (K + 7)]) (ci := 9) (n1 := (K + 39)) ⟨hx, hb, hml, hown, hts⟩ hK hG hat_K34 hS (fun q h9 => by show _ = _ ∨ _ ≤ _; omega) hXX ⟨callB_of 0 hts (wl_in mw_80) rfl rfl rfl (htl _ mw_76) (htl _ mw_116) hd_yX9_init ⟨(Nat.le_of_ble_eq_true rfl), (Nat.le_of_ble_eq_true rfl)⟩, rfl, htl _ mw_79⟩ rfl hl.1 rfl (Nat.le_of_ble_eq_true rfl) dX1_init_89 ⟨(Nat.le_of_ble_eq_true rfl), (Nat.le_of_ble_eq_true rfl)⟩ (fun H locs hG oq hS => ?_)
  have hat_a0 : va_at D vwCl (a0, .inr (1, [.int 0, .ref a1, .ref a2, .ref K, .ref (K + 1), .int 0, .ref (K + 2), .ref (K + 7), .ref (K + 8), .int 0, .int 0])) H := hat_a0.kept (oq _ (by omega) (by omega))
  have hat_K : va_at D vwCl (K, .inl (cy 3, 16, .inr (.inr (.inr (.inr (va_up (va_up (va_up (fun _ => none) (0 : Int32).toNatClampNeg (some (K + 9))) (1 : Int32).toNatClampNeg (some (K + 19))) (2 : Int32).toNatClampNeg (some (K + 29)))))))) H := hat_K.kept (oq _ (by omega) (by omega))
  have hat_K7 : va_at D vwCl ((K + 7), .inl (cy 3, 16, .inr (.inr (.inr (.inr (va_up (va_up (fun _ => none) (0 : Int32).toNatClampNeg (some (K + 14))) (1 : Int32).toNatClampNeg (some (K + 24)))))))) H := hat_K7.kept (oq _ (by omega) (by omega))
  refine W.widen (k := 39) (n := 323) (Nat.le_of_ble_eq_true rfl) (Nat.le_of_ble_eq_true rfl) ?_
  have hG : rc_G D cy ld t ((K + 7) :: K :: a0 :: X) (K + 39) H := hG
  obtain ⟨fs9, hv9, -⟩ := hG.obj (ci := 9) ht34 (by decide) (by omega) (rc_nin (by omega) ( rc_nin (by omega) ( rc_nin (by omega) (hX _ (by omega)))))
  refine rc_aast (ci := 9) (r := (RX9, TX9, 11)) hx hb hK 3 hat_K7 rfl hv9 rfl (fx_in (by decide)) dX1_init_92 (fun H j9 hat_n z9 oq => ?_)
  have hS := hS.put (k := j9) z9 oq (by show _ = _ ∨ _ ≤ _; omega)
  have hat_a0 : va_at D vwCl (a0, .inr (1, [.int 0, .ref a1, .ref a2, .ref K, .ref (K + 1), .int 0, .ref (K + 2), .ref (K + 7), .ref (K + 8), .int 0, .int 0])) H := hat_a0.kept (oq _ (by omega))
  have hat_K : va_at D vwCl (K, .inl (cy 3, 16, .inr (.inr (.inr (.inr (va_up (va_up (va_up (fun _ => none) (0 : Int32).toNatClampNeg (some (K + 9))) (1 : Int32).toNatClampNeg (some (K + 19))) (2 : Int32).toNatClampNeg (some (K + 29)))))))) H := hat_K.kept (oq _ (by omega))
  have hat_K7 : va_at D vwCl ((K + 7), .inl (cy 3, 16, .inr (.inr (.inr (.inr (va_up (va_up (va_up (fun _ => none) (0 : Int32).toNatClampNeg (some (K + 14))) (1 : Int32).toNatClampNeg (some (K + 24))) (2 : Int32).toNatClampNeg (some (K + 34)))))))) H := hat_n
  have hG : rc_G D cy ld t ((K + 7) :: K :: a0 :: X) (K + 39) H := hG.ajar (by simp) z9 oq
  refine lv_iinc (v := 3) (lv' := [(3, .int 3), (0, .ref a0), (1, .ref a1), (2, .ref a2)]) hx hb dX1_init_93 hl (k := 0) rfl (by decide) (by decide) rfl (fun ls hl => ?_)
  refine lv_goto (tgt := 61) hx hb dX1_init_96 (by decide) ?_
  refine lv_iload_n hx hb dX1_init_61 rfl (lv_at hl 0 rfl) ?_
  refine lv_bipush (v := 16) hx hb dX1_init_62 (by decide) ?_
  refine lv_icmp_ge (tgt := 99) hx hb dX1_init_64 (by decide) (fun c9 => absurd c9 (by decide)) (fun _ => ?_)
  refine lv_aload_n hx hb dX1_init_67 rfl (lv_at hl 1 rfl) ?_
  refine va_get (ci := 1) (C := RX1) (T := TX1) (N := 11) hx hb htl inX1 hown hK.1 (tk_one hat_a0) 0 rfl rfl 3 (by decide) (htl _ mw_109) (fun _ h9 => h9) rfl dX1_init_68 ?_
  refine lv_iload_n hx hb dX1_init_71 rfl (lv_at hl 0 rfl) ?_
  refine rc_new (ci := 9) (fs := [.null, .null, .null, .null, .int 0, .int 0, .int 0, .int 0, .int 0, .int 0, .int 0]) (C := RX9) (T := TX9) (N := 11) hx hb htl inX9 tyX9 tyX9_ok hown (htl _ mw_108) (htl _ mw_75) (htl _ mw_76) hK hG hS rfl dfX9 (Nat.le_of_ble_eq_true rfl) (Nat.le_of_ble_eq_true rfl) dX1_init_72 (fun H hG hat_n oq hS => ?_)
  have hat_a0 : va_at D vwCl (a0, .inr (1, [.int 0, .ref a1, .ref a2, .ref K, .ref (K + 1), .int 0, .ref (K + 2), .ref (K + 7), .ref (K + 8), .int 0, .int 0])) H := hat_a0.kept (oq _ (by omega))
  have hat_K : va_at D vwCl (K, .inl (cy 3, 16, .inr (.inr (.inr (.inr (va_up (va_up (va_up (fun _ => none) (0 : Int32).toNatClampNeg (some (K + 9))) (1 : Int32).toNatClampNeg (some (K + 19))) (2 : Int32).toNatClampNeg (some (K + 29)))))))) H := hat_K.kept (oq _ (by omega))
  have hat_K7 : va_at D vwCl ((K + 7), .inl (cy 3, 16, .inr (.inr (.inr (.inr (va_up (va_up (va_up (fun _ => none) (0 : Int32).toNatClampNeg (some (K + 14))) (1 : Int32).toNatClampNeg (some (K + 24))) (2 : Int32).toNatClampNeg (some (K + 34)))))))) H := hat_K7.kept (oq _ (by omega))
  refine W.widen (k := 40) (n := 334) (Nat.le_of_ble_eq_true rfl) (Nat.le_of_ble_eq_true rfl) ?_
  have hG : rc_G D cy ld t ((K + 39) :: (K + 7) :: K :: a0 :: X) (K + 40) H := hG
  have hat_K39 : va_at D vwCl ((K + 39), .inr (9, [.null, .null, .null, .null, .int 0, .int 0, .int 0, .int 0, .int 0, .int 0, .int 0])) H := hat_n
  refine lv_dup hx hb dX1_init_75 rfl ?_
  have hXX := kc_X9 l D cy ld t ((K + 7) :: K :: a0 :: X) (K + 39) (K + 40) 1 ht39 hs40  (fun q hq => rc_nin (by omega) (rc_nin (by omega) (rc_nin (by omega) (hX q (by omega)))))
  refine rc_I (As := []) (rest := [.ref (K + 39), .int 3, .ref K]) (ci := 9) (n1 := (K + 44)) ⟨hx, hb, hml, hown, hts⟩ hK hG hat_K39 hS (fun q h9 => by show _ = _ ∨ _ ≤ _; omega) hXX ⟨callB_of 0 hts (wl_in mw_80) rfl rfl rfl (htl _ mw_76) (htl _ mw_116) hd_yX9_init ⟨(Nat.le_of_ble_eq_true rfl), (Nat.le_of_ble_eq_true rfl)⟩, rfl, htl _ mw_79⟩ rfl hl.1 rfl (Nat.le_of_ble_eq_true rfl) dX1_init_76 ⟨(Nat.le_of_ble_eq_true rfl), (Nat.le_of_ble_eq_true rfl)⟩ (fun H locs hG oq hS => ?_)
  have hat_a0 : va_at D vwCl (a0, .inr (1, [.int 0, .ref a1, .ref a2, .ref K, .ref (K + 1), .int 0, .ref (K + 2), .ref (K + 7), .ref (K + 8), .int 0, .int 0])) H := hat_a0.kept (oq _ (by omega) (by omega))
  have hat_K : va_at D vwCl (K, .inl (cy 3, 16, .inr (.inr (.inr (.inr (va_up (va_up (va_up (fun _ => none) (0 : Int32).toNatClampNeg (some (K + 9))) (1 : Int32).toNatClampNeg (some (K + 19))) (2 : Int32).toNatClampNeg (some (K + 29)))))))) H := hat_K.kept (oq _ (by omega) (by omega))
  have hat_K7 : va_at D vwCl ((K + 7), .inl (cy 3, 16, .inr (.inr (.inr (.inr (va_up (va_up (va_up (fun _ => none) (0 : Int32).toNatClampNeg (some (K + 14))) (1 : Int32).toNatClampNeg (some (K + 24))) (2 : Int32).toNatClampNeg (some (K + 34)))))))) H := hat_K7.kept (oq _ (by omega) (by omega))
  refine W.widen (k := 44) (n := 360) (Nat.le_of_ble_eq_true rfl) (Nat.le_of_ble_eq_true rfl) ?_
  have hG : rc_G D cy ld t ((K + 7) :: K :: a0 :: X) (K + 44) H := hG
  obtain ⟨fs9, hv9, -⟩ := hG.obj (ci := 9) ht39 (by decide) (by omega) (rc_nin (by omega) ( rc_nin (by omega) ( rc_nin (by omega) (hX _ (by omega)))))
  refine rc_aast (ci := 9) (r := (RX9, TX9, 11)) hx hb hK 3 hat_K rfl hv9 rfl (fx_in (by decide)) dX1_init_79 (fun H j9 hat_n z9 oq => ?_)
  have hS := hS.put (k := j9) z9 oq (by show _ = _ ∨ _ ≤ _; omega)
  have hat_a0 : va_at D vwCl (a0, .inr (1, [.int 0, .ref a1, .ref a2, .ref K, .ref (K + 1), .int 0, .ref (K + 2), .ref (K + 7), .ref (K + 8), .int 0, .int 0])) H := hat_a0.kept (oq _ (by omega))
  have hat_K7 : va_at D vwCl ((K + 7), .inl (cy 3, 16, .inr (.inr (.inr (.inr (va_up (va_up (va_up (fun _ => none) (0 : Int32).toNatClampNeg (some (K + 14))) (1 : Int32).toNatClampNeg (some (K + 24))) (2 : Int32).toNatClampNeg (some (K + 34)))))))) H := hat_K7.kept (oq _ (by omega))
  have hat_K : va_at D vwCl (K, .inl (cy 3, 16, .inr (.inr (.inr (.inr (va_up (va_up (va_up (va_up (fun _ => none) (0 : Int32).toNatClampNeg (some (K + 9))) (1 : Int32).toNatClampNeg (some (K + 19))) (2 : Int32).toNatClampNeg (some (K + 29))) (3 : Int32).toNatClampNeg (some (K + 39)))))))) H := hat_n
  have hG : rc_G D cy ld t ((K + 7) :: K :: a0 :: X) (K + 44) H := hG.ajar (by simp) z9 oq
  refine lv_aload_n hx hb dX1_init_80 rfl (lv_at hl 1 rfl) ?_
  refine va_get (ci := 1) (C := RX1) (T := TX1) (N := 11) hx hb htl inX1 hown hK.1 (tk_one hat_a0) 0 rfl rfl 7 (by decide) (htl _ mw_112) (fun _ h9 => h9) rfl dX1_init_81 ?_
  refine lv_iload_n hx hb dX1_init_84 rfl (lv_at hl 0 rfl) ?_
  refine rc_new (ci := 9) (fs := [.null, .null, .null, .null, .int 0, .int 0, .int 0, .int 0, .int 0, .int 0, .int 0]) (C := RX9) (T := TX9) (N := 11) hx hb htl inX9 tyX9 tyX9_ok hown (htl _ mw_108) (htl _ mw_75) (htl _ mw_76) hK hG hS rfl dfX9 (Nat.le_of_ble_eq_true rfl) (Nat.le_of_ble_eq_true rfl) dX1_init_85 (fun H hG hat_n oq hS => ?_)
  have hat_a0 : va_at D vwCl (a0, .inr (1, [.int 0, .ref a1, .ref a2, .ref K, .ref (K + 1), .int 0, .ref (K + 2), .ref (K + 7), .ref (K + 8), .int 0, .int 0])) H := hat_a0.kept (oq _ (by omega))
  have hat_K : va_at D vwCl (K, .inl (cy 3, 16, .inr (.inr (.inr (.inr (va_up (va_up (va_up (va_up (fun _ => none) (0 : Int32).toNatClampNeg (some (K + 9))) (1 : Int32).toNatClampNeg (some (K + 19))) (2 : Int32).toNatClampNeg (some (K + 29))) (3 : Int32).toNatClampNeg (some (K + 39)))))))) H := hat_K.kept (oq _ (by omega))
  have hat_K7 : va_at D vwCl ((K + 7), .inl (cy 3, 16, .inr (.inr (.inr (.inr (va_up (va_up (va_up (fun _ => none) (0 : Int32).toNatClampNeg (some (K + 14))) (1 : Int32).toNatClampNeg (some (K + 24))) (2 : Int32).toNatClampNeg (some (K + 34)))))))) H := hat_K7.kept (oq _ (by omega))
  refine W.widen (k := 45) (n := 371) (Nat.le_of_ble_eq_true rfl) (Nat.le_of_ble_eq_true rfl) ?_
  have hG : rc_G D cy ld t ((K + 44) :: (K + 7) :: K :: a0 :: X) (K + 45) H := hG
  have hat_K44 : va_at D vwCl ((K + 44), .inr (9, [.null, .null, .null, .null, .int 0, .int 0, .int 0, .int 0, .int 0, .int 0, .int 0])) H := hat_n
  refine lv_dup hx hb dX1_init_88 rfl ?_
  have hXX := kc_X9 l D cy ld t ((K + 7) :: K :: a0 :: X) (K + 44) (K + 45) 3 ht44 hs45  (fun q hq => rc_nin (by omega) (rc_nin (by omega) (rc_nin (by omega) (hX q (by omega)))))
  refine rc_I (As := []) (rest := [.ref (K + 44), .int 3, .ref (K + 7)]) (ci := 9) (n1 := (K + 49)) ⟨hx, hb, hml, hown, hts⟩ hK hG hat_K44 hS (fun q h9 => by show _ = _ ∨ _ ≤ _; omega) hXX ⟨callB_of 0 hts (wl_in mw_80) rfl rfl rfl (htl _ mw_76) (htl _ mw_116) hd_yX9_init ⟨(Nat.le_of_ble_eq_true rfl), (Nat.le_of_ble_eq_true rfl)⟩, rfl, htl _ mw_79⟩ rfl hl.1 rfl (Nat.le_of_ble_eq_true rfl) dX1_init_89 ⟨(Nat.le_of_ble_eq_true rfl), (Nat.le_of_ble_eq_true rfl)⟩ (fun H locs hG oq hS => ?_)
  have hat_a0 : va_at D vwCl (a0, .inr (1, [.int 0, .ref a1, .ref a2, .ref K, .ref (K + 1), .int 0, .ref (K + 2), .ref (K + 7), .ref (K + 8), .int 0, .int 0])) H := hat_a0.kept (oq _ (by omega) (by omega))
  have hat_K : va_at D vwCl (K, .inl (cy 3, 16, .inr (.inr (.inr (.inr (va_up (va_up (va_up (va_up (fun _ => none) (0 : Int32).toNatClampNeg (some (K + 9))) (1 : Int32).toNatClampNeg (some (K + 19))) (2 : Int32).toNatClampNeg (some (K + 29))) (3 : Int32).toNatClampNeg (some (K + 39)))))))) H := hat_K.kept (oq _ (by omega) (by omega))
  have hat_K7 : va_at D vwCl ((K + 7), .inl (cy 3, 16, .inr (.inr (.inr (.inr (va_up (va_up (va_up (fun _ => none) (0 : Int32).toNatClampNeg (some (K + 14))) (1 : Int32).toNatClampNeg (some (K + 24))) (2 : Int32).toNatClampNeg (some (K + 34)))))))) H := hat_K7.kept (oq _ (by omega) (by omega))
  refine W.widen (k := 49) (n := 397) (Nat.le_of_ble_eq_true rfl) (Nat.le_of_ble_eq_true rfl) ?_
  have hG : rc_G D cy ld t ((K + 7) :: K :: a0 :: X) (K + 49) H := hG
  obtain ⟨fs9, hv9, -⟩ := hG.obj (ci := 9) ht44 (by decide) (by omega) (rc_nin (by omega) ( rc_nin (by omega) ( rc_nin (by omega) (hX _ (by omega)))))
  refine rc_aast (ci := 9) (r := (RX9, TX9, 11)) hx hb hK 3 hat_K7 rfl hv9 rfl (fx_in (by decide)) dX1_init_92 (fun H j9 hat_n z9 oq => ?_)
  have hS := hS.put (k := j9) z9 oq (by show _ = _ ∨ _ ≤ _; omega)
  have hat_a0 : va_at D vwCl (a0, .inr (1, [.int 0, .ref a1, .ref a2, .ref K, .ref (K + 1), .int 0, .ref (K + 2), .ref (K + 7), .ref (K + 8), .int 0, .int 0])) H := hat_a0.kept (oq _ (by omega))
  have hat_K : va_at D vwCl (K, .inl (cy 3, 16, .inr (.inr (.inr (.inr (va_up (va_up (va_up (va_up (fun _ => none) (0 : Int32).toNatClampNeg (some (K + 9))) (1 : Int32).toNatClampNeg (some (K + 19))) (2 : Int32).toNatClampNeg (some (K + 29))) (3 : Int32).toNatClampNeg (some (K + 39)))))))) H := hat_K.kept (oq _ (by omega))
  have hat_K7 : va_at D vwCl ((K + 7), .inl (cy 3, 16, .inr (.inr (.inr (.inr (va_up (va_up (va_up (va_up (fun _ => none) (0 : Int32).toNatClampNeg (some (K + 14))) (1 : Int32).toNatClampNeg (some (K + 24))) (2 : Int32).toNatClampNeg (some (K + 34))) (3 : Int32).toNatClampNeg (some (K + 44)))))))) H := hat_n
  have hG : rc_G D cy ld t ((K + 7) :: K :: a0 :: X) (K + 49) H := hG.ajar (by simp) z9 oq
  refine lv_iinc (v := 4) (lv' := [(3, .int 4), (0, .ref a0), (1, .ref a1), (2, .ref a2)]) hx hb dX1_init_93 hl (k := 0) rfl (by decide) (by decide) rfl (fun ls hl => ?_)
  refine lv_goto (tgt := 61) hx hb dX1_init_96 (by decide) ?_
  refine lv_iload_n hx hb dX1_init_61 rfl (lv_at hl 0 rfl) ?_
  refine lv_bipush (v := 16) hx hb dX1_init_62 (by decide) ?_
  refine lv_icmp_ge (tgt := 99) hx hb dX1_init_64 (by decide) (fun c9 => absurd c9 (by decide)) (fun _ => ?_)
  refine lv_aload_n hx hb dX1_init_67 rfl (lv_at hl 1 rfl) ?_
  refine va_get (ci := 1) (C := RX1) (T := TX1) (N := 11) hx hb htl inX1 hown hK.1 (tk_one hat_a0) 0 rfl rfl 3 (by decide) (htl _ mw_109) (fun _ h9 => h9) rfl dX1_init_68 ?_
  refine lv_iload_n hx hb dX1_init_71 rfl (lv_at hl 0 rfl) ?_
  refine rc_new (ci := 9) (fs := [.null, .null, .null, .null, .int 0, .int 0, .int 0, .int 0, .int 0, .int 0, .int 0]) (C := RX9) (T := TX9) (N := 11) hx hb htl inX9 tyX9 tyX9_ok hown (htl _ mw_108) (htl _ mw_75) (htl _ mw_76) hK hG hS rfl dfX9 (Nat.le_of_ble_eq_true rfl) (Nat.le_of_ble_eq_true rfl) dX1_init_72 (fun H hG hat_n oq hS => ?_)
  have hat_a0 : va_at D vwCl (a0, .inr (1, [.int 0, .ref a1, .ref a2, .ref K, .ref (K + 1), .int 0, .ref (K + 2), .ref (K + 7), .ref (K + 8), .int 0, .int 0])) H := hat_a0.kept (oq _ (by omega))
  have hat_K : va_at D vwCl (K, .inl (cy 3, 16, .inr (.inr (.inr (.inr (va_up (va_up (va_up (va_up (fun _ => none) (0 : Int32).toNatClampNeg (some (K + 9))) (1 : Int32).toNatClampNeg (some (K + 19))) (2 : Int32).toNatClampNeg (some (K + 29))) (3 : Int32).toNatClampNeg (some (K + 39)))))))) H := hat_K.kept (oq _ (by omega))
  have hat_K7 : va_at D vwCl ((K + 7), .inl (cy 3, 16, .inr (.inr (.inr (.inr (va_up (va_up (va_up (va_up (fun _ => none) (0 : Int32).toNatClampNeg (some (K + 14))) (1 : Int32).toNatClampNeg (some (K + 24))) (2 : Int32).toNatClampNeg (some (K + 34))) (3 : Int32).toNatClampNeg (some (K + 44)))))))) H := hat_K7.kept (oq _ (by omega))
  refine W.widen (k := 50) (n := 408) (Nat.le_of_ble_eq_true rfl) (Nat.le_of_ble_eq_true rfl) ?_
  have hG : rc_G D cy ld t ((K + 49) :: (K + 7) :: K :: a0 :: X) (K + 50) H := hG
  have hat_K49 : va_at D vwCl ((K + 49), .inr (9, [.null, .null, .null, .null, .int 0, .int 0, .int 0, .int 0, .int 0, .int 0, .int 0])) H := hat_n
  refine lv_dup hx hb dX1_init_75 rfl ?_
  have hXX := kc_X9 l D cy ld t ((K + 7) :: K :: a0 :: X) (K + 49) (K + 50) 1 ht49 hs50  (fun q hq => rc_nin (by omega) (rc_nin (by omega) (rc_nin (by omega) (hX q (by omega)))))
  refine rc_I (As := []) (rest := [.ref (K + 49), .int 4, .ref K]) (ci := 9) (n1 := (K + 54)) ⟨hx, hb, hml, hown, hts⟩ hK hG hat_K49 hS (fun q h9 => by show _ = _ ∨ _ ≤ _; omega) hXX ⟨callB_of 0 hts (wl_in mw_80) rfl rfl rfl (htl _ mw_76) (htl _ mw_116) hd_yX9_init ⟨(Nat.le_of_ble_eq_true rfl), (Nat.le_of_ble_eq_true rfl)⟩, rfl, htl _ mw_79⟩ rfl hl.1 rfl (Nat.le_of_ble_eq_true rfl) dX1_init_76 ⟨(Nat.le_of_ble_eq_true rfl), (Nat.le_of_ble_eq_true rfl)⟩ (fun H locs hG oq hS => ?_)
  have hat_a0 : va_at D vwCl (a0, .inr (1, [.int 0, .ref a1, .ref a2, .ref K, .ref (K + 1), .int 0, .ref (K + 2), .ref (K + 7), .ref (K + 8), .int 0, .int 0])) H := hat_a0.kept (oq _ (by omega) (by omega))
  have hat_K : va_at D vwCl (K, .inl (cy 3, 16, .inr (.inr (.inr (.inr (va_up (va_up (va_up (va_up (fun _ => none) (0 : Int32).toNatClampNeg (some (K + 9))) (1 : Int32).toNatClampNeg (some (K + 19))) (2 : Int32).toNatClampNeg (some (K + 29))) (3 : Int32).toNatClampNeg (some (K + 39)))))))) H := hat_K.kept (oq _ (by omega) (by omega))
  have hat_K7 : va_at D vwCl ((K + 7), .inl (cy 3, 16, .inr (.inr (.inr (.inr (va_up (va_up (va_up (va_up (fun _ => none) (0 : Int32).toNatClampNeg (some (K + 14))) (1 : Int32).toNatClampNeg (some (K + 24))) (2 : Int32).toNatClampNeg (some (K + 34))) (3 : Int32).toNatClampNeg (some (K + 44)))))))) H := hat_K7.kept (oq _ (by omega) (by omega))
  refine W.widen (k := 54) (n := 434) (Nat.le_of_ble_eq_true rfl) (Nat.le_of_ble_eq_true rfl) ?_
  have hG : rc_G D cy ld t ((K + 7) :: K :: a0 :: X) (K + 54) H := hG
  obtain ⟨fs9, hv9, -⟩ := hG.obj (ci := 9) ht49 (by decide) (by omega) (rc_nin (by omega) ( rc_nin (by omega) ( rc_nin (by omega) (hX _ (by omega)))))
  refine rc_aast (ci := 9) (r := (RX9, TX9, 11)) hx hb hK 3 hat_K rfl hv9 rfl (fx_in (by decide)) dX1_init_79 (fun H j9 hat_n z9 oq => ?_)
  have hS := hS.put (k := j9) z9 oq (by show _ = _ ∨ _ ≤ _; omega)
  have hat_a0 : va_at D vwCl (a0, .inr (1, [.int 0, .ref a1, .ref a2, .ref K, .ref (K + 1), .int 0, .ref (K + 2), .ref (K + 7), .ref (K + 8), .int 0, .int 0])) H := hat_a0.kept (oq _ (by omega))
  have hat_K7 : va_at D vwCl ((K + 7), .inl (cy 3, 16, .inr (.inr (.inr (.inr (va_up (va_up (va_up (va_up (fun _ => none) (0 : Int32).toNatClampNeg (some (K + 14))) (1 : Int32).toNatClampNeg (some (K + 24))) (2 : Int32).toNatClampNeg (some (K + 34))) (3 : Int32).toNatClampNeg (some (K + 44)))))))) H := hat_K7.kept (oq _ (by omega))
  have hat_K : va_at D vwCl (K, .inl (cy 3, 16, .inr (.inr (.inr (.inr (va_up (va_up (va_up (va_up (va_up (fun _ => none) (0 : Int32).toNatClampNeg (some (K + 9))) (1 : Int32).toNatClampNeg (some (K + 19))) (2 : Int32).toNatClampNeg (some (K + 29))) (3 : Int32).toNatClampNeg (some (K + 39))) (4 : Int32).toNatClampNeg (some (K + 49)))))))) H := hat_n
  have hG : rc_G D cy ld t ((K + 7) :: K :: a0 :: X) (K + 54) H := hG.ajar (by simp) z9 oq
  refine lv_aload_n hx hb dX1_init_80 rfl (lv_at hl 1 rfl) ?_
  refine va_get (ci := 1) (C := RX1) (T := TX1) (N := 11) hx hb htl inX1 hown hK.1 (tk_one hat_a0) 0 rfl rfl 7 (by decide) (htl _ mw_112) (fun _ h9 => h9) rfl dX1_init_81 ?_
  refine lv_iload_n hx hb dX1_init_84 rfl (lv_at hl 0 rfl) ?_
  refine rc_new (ci := 9) (fs := [.null, .null, .null, .null, .int 0, .int 0, .int 0, .int 0, .int 0, .int 0, .int 0]) (C := RX9) (T := TX9) (N := 11) hx hb htl inX9 tyX9 tyX9_ok hown (htl _ mw_108) (htl _ mw_75) (htl _ mw_76) hK hG hS rfl dfX9 (Nat.le_of_ble_eq_true rfl) (Nat.le_of_ble_eq_true rfl) dX1_init_85 (fun H hG hat_n oq hS => ?_)
  have hat_a0 : va_at D vwCl (a0, .inr (1, [.int 0, .ref a1, .ref a2, .ref K, .ref (K + 1), .int 0, .ref (K + 2), .ref (K + 7), .ref (K + 8), .int 0, .int 0])) H := hat_a0.kept (oq _ (by omega))
  have hat_K : va_at D vwCl (K, .inl (cy 3, 16, .inr (.inr (.inr (.inr (va_up (va_up (va_up (va_up (va_up (fun _ => none) (0 : Int32).toNatClampNeg (some (K + 9))) (1 : Int32).toNatClampNeg (some (K + 19))) (2 : Int32).toNatClampNeg (some (K + 29))) (3 : Int32).toNatClampNeg (some (K + 39))) (4 : Int32).toNatClampNeg (some (K + 49)))))))) H := hat_K.kept (oq _ (by omega))
  have hat_K7 : va_at D vwCl ((K + 7), .inl (cy 3, 16, .inr (.inr (.inr (.inr (va_up (va_up (va_up (va_up (fun _ => none) (0 : Int32).toNatClampNeg (some (K + 14))) (1 : Int32).toNatClampNeg (some (K + 24))) (2 : Int32).toNatClampNeg (some (K + 34))) (3 : Int32).toNatClampNeg (some (K + 44)))))))) H := hat_K7.kept (oq _ (by omega))
  refine W.widen (k := 55) (n := 445) (Nat.le_of_ble_eq_true rfl) (Nat.le_of_ble_eq_true rfl) ?_
  have hG : rc_G D cy ld t ((K + 54) :: (K + 7) :: K :: a0 :: X) (K + 55) H := hG
  have hat_K54 : va_at D vwCl ((K + 54), .inr (9, [.null, .null, .null, .null, .int 0, .int 0, .int 0, .int 0, .int 0, .int 0, .int 0])) H := hat_n
  refine lv_dup hx hb dX1_init_88 rfl ?_
  have hXX := kc_X9 l D cy ld t ((K + 7) :: K :: a0 :: X) (K + 54) (K + 55) 3 ht54 hs55  (fun q hq => rc_nin (by omega) (rc_nin (by omega) (rc_nin (by omega) (hX q (by omega)))))
  refine rc_I (As := []) (rest := [.ref (K + 54), .int 4, .ref (K + 7)]) (ci := 9) (n1 := (K + 59)) ⟨hx, hb, hml, hown, hts⟩ hK hG hat_K54 hS (fun q h9 => by show _ = _ ∨ _ ≤ _; omega) hXX ⟨callB_of 0 hts (wl_in mw_80) rfl rfl rfl (htl _ mw_76) (htl _ mw_116) hd_yX9_init ⟨(Nat.le_of_ble_eq_true rfl), (Nat.le_of_ble_eq_true rfl)⟩, rfl, htl _ mw_79⟩ rfl hl.1 rfl (Nat.le_of_ble_eq_true rfl) dX1_init_89 ⟨(Nat.le_of_ble_eq_true rfl), (Nat.le_of_ble_eq_true rfl)⟩ (fun H locs hG oq hS => ?_)
  have hat_a0 : va_at D vwCl (a0, .inr (1, [.int 0, .ref a1, .ref a2, .ref K, .ref (K + 1), .int 0, .ref (K + 2), .ref (K + 7), .ref (K + 8), .int 0, .int 0])) H := hat_a0.kept (oq _ (by omega) (by omega))
  have hat_K : va_at D vwCl (K, .inl (cy 3, 16, .inr (.inr (.inr (.inr (va_up (va_up (va_up (va_up (va_up (fun _ => none) (0 : Int32).toNatClampNeg (some (K + 9))) (1 : Int32).toNatClampNeg (some (K + 19))) (2 : Int32).toNatClampNeg (some (K + 29))) (3 : Int32).toNatClampNeg (some (K + 39))) (4 : Int32).toNatClampNeg (some (K + 49)))))))) H := hat_K.kept (oq _ (by omega) (by omega))
  have hat_K7 : va_at D vwCl ((K + 7), .inl (cy 3, 16, .inr (.inr (.inr (.inr (va_up (va_up (va_up (va_up (fun _ => none) (0 : Int32).toNatClampNeg (some (K + 14))) (1 : Int32).toNatClampNeg (some (K + 24))) (2 : Int32).toNatClampNeg (some (K + 34))) (3 : Int32).toNatClampNeg (some (K + 44)))))))) H := hat_K7.kept (oq _ (by omega) (by omega))
  refine W.widen (k := 59) (n := 471) (Nat.le_of_ble_eq_true rfl) (Nat.le_of_ble_eq_true rfl) ?_
  have hG : rc_G D cy ld t ((K + 7) :: K :: a0 :: X) (K + 59) H := hG
  obtain ⟨fs9, hv9, -⟩ := hG.obj (ci := 9) ht54 (by decide) (by omega) (rc_nin (by omega) ( rc_nin (by omega) ( rc_nin (by omega) (hX _ (by omega)))))
  refine rc_aast (ci := 9) (r := (RX9, TX9, 11)) hx hb hK 3 hat_K7 rfl hv9 rfl (fx_in (by decide)) dX1_init_92 (fun H j9 hat_n z9 oq => ?_)
  have hS := hS.put (k := j9) z9 oq (by show _ = _ ∨ _ ≤ _; omega)
  have hat_a0 : va_at D vwCl (a0, .inr (1, [.int 0, .ref a1, .ref a2, .ref K, .ref (K + 1), .int 0, .ref (K + 2), .ref (K + 7), .ref (K + 8), .int 0, .int 0])) H := hat_a0.kept (oq _ (by omega))
  have hat_K : va_at D vwCl (K, .inl (cy 3, 16, .inr (.inr (.inr (.inr (va_up (va_up (va_up (va_up (va_up (fun _ => none) (0 : Int32).toNatClampNeg (some (K + 9))) (1 : Int32).toNatClampNeg (some (K + 19))) (2 : Int32).toNatClampNeg (some (K + 29))) (3 : Int32).toNatClampNeg (some (K + 39))) (4 : Int32).toNatClampNeg (some (K + 49)))))))) H := hat_K.kept (oq _ (by omega))
  have hat_K7 : va_at D vwCl ((K + 7), .inl (cy 3, 16, .inr (.inr (.inr (.inr (va_up (va_up (va_up (va_up (va_up (fun _ => none) (0 : Int32).toNatClampNeg (some (K + 14))) (1 : Int32).toNatClampNeg (some (K + 24))) (2 : Int32).toNatClampNeg (some (K + 34))) (3 : Int32).toNatClampNeg (some (K + 44))) (4 : Int32).toNatClampNeg (some (K + 54)))))))) H := hat_n
  have hG : rc_G D cy ld t ((K + 7) :: K :: a0 :: X) (K + 59) H := hG.ajar (by simp) z9 oq
  refine lv_iinc (v := 5) (lv' := [(3, .int 5), (0, .ref a0), (1, .ref a1), (2, .ref a2)]) hx hb dX1_init_93 hl (k := 0) rfl (by decide) (by decide) rfl (fun ls hl => ?_)
  refine lv_goto (tgt := 61) hx hb dX1_init_96 (by decide) ?_
  refine lv_iload_n hx hb dX1_init_61 rfl (lv_at hl 0 rfl) ?_
  refine lv_bipush (v := 16) hx hb dX1_init_62 (by decide) ?_
  refine lv_icmp_ge (tgt := 99) hx hb dX1_init_64 (by decide) (fun c9 => absurd c9 (by decide)) (fun _ => ?_)
  refine lv_aload_n hx hb dX1_init_67 rfl (lv_at hl 1 rfl) ?_
  refine va_get (ci := 1) (C := RX1) (T := TX1) (N := 11) hx hb htl inX1 hown hK.1 (tk_one hat_a0) 0 rfl rfl 3 (by decide) (htl _ mw_109) (fun _ h9 => h9) rfl dX1_init_68 ?_
  refine lv_iload_n hx hb dX1_init_71 rfl (lv_at hl 0 rfl) ?_
  refine rc_new (ci := 9) (fs := [.null, .null, .null, .null, .int 0, .int 0, .int 0, .int 0, .int 0, .int 0, .int 0]) (C := RX9) (T := TX9) (N := 11) hx hb htl inX9 tyX9 tyX9_ok hown (htl _ mw_108) (htl _ mw_75) (htl _ mw_76) hK hG hS rfl dfX9 (Nat.le_of_ble_eq_true rfl) (Nat.le_of_ble_eq_true rfl) dX1_init_72 (fun H hG hat_n oq hS => ?_)
  have hat_a0 : va_at D vwCl (a0, .inr (1, [.int 0, .ref a1, .ref a2, .ref K, .ref (K + 1), .int 0, .ref (K + 2), .ref (K + 7), .ref (K + 8), .int 0, .int 0])) H := hat_a0.kept (oq _ (by omega))
  have hat_K : va_at D vwCl (K, .inl (cy 3, 16, .inr (.inr (.inr (.inr (va_up (va_up (va_up (va_up (va_up (fun _ => none) (0 : Int32).toNatClampNeg (some (K + 9))) (1 : Int32).toNatClampNeg (some (K + 19))) (2 : Int32).toNatClampNeg (some (K + 29))) (3 : Int32).toNatClampNeg (some (K + 39))) (4 : Int32).toNatClampNeg (some (K + 49)))))))) H := hat_K.kept (oq _ (by omega))
  have hat_K7 : va_at D vwCl ((K + 7), .inl (cy 3, 16, .inr (.inr (.inr (.inr (va_up (va_up (va_up (va_up (va_up (fun _ => none) (0 : Int32).toNatClampNeg (some (K + 14))) (1 : Int32).toNatClampNeg (some (K + 24))) (2 : Int32).toNatClampNeg (some (K + 34))) (3 : Int32).toNatClampNeg (some (K + 44))) (4 : Int32).toNatClampNeg (some (K + 54)))))))) H := hat_K7.kept (oq _ (by omega))
  refine W.widen (k := 60) (n := 482) (Nat.le_of_ble_eq_true rfl) (Nat.le_of_ble_eq_true rfl) ?_
  have hG : rc_G D cy ld t ((K + 59) :: (K + 7) :: K :: a0 :: X) (K + 60) H := hG
  have hat_K59 : va_at D vwCl ((K + 59), .inr (9, [.null, .null, .null, .null, .int 0, .int 0, .int 0, .int 0, .int 0, .int 0, .int 0])) H := hat_n
  refine lv_dup hx hb dX1_init_75 rfl ?_
  have hXX := kc_X9 l D cy ld t ((K + 7) :: K :: a0 :: X) (K + 59) (K + 60) 1 ht59 hs60  (fun q hq => rc_nin (by omega) (rc_nin (by omega) (rc_nin (by omega) (hX q (by omega)))))
  refine rc_I (As := []) (rest := [.ref (K + 59), .int 5, .ref K]) (ci := 9) (n1 := (K + 64)) ⟨hx, hb, hml, hown, hts⟩ hK hG hat_K59 hS (fun q h9 => by show _ = _ ∨ _ ≤ _; omega) hXX ⟨callB_of 0 hts (wl_in mw_80) rfl rfl rfl (htl _ mw_76) (htl _ mw_116) hd_yX9_init ⟨(Nat.le_of_ble_eq_true rfl), (Nat.le_of_ble_eq_true rfl)⟩, rfl, htl _ mw_79⟩ rfl hl.1 rfl (Nat.le_of_ble_eq_true rfl) dX1_init_76 ⟨(Nat.le_of_ble_eq_true rfl), (Nat.le_of_ble_eq_true rfl)⟩ (fun H locs hG oq hS => ?_)
  have hat_a0 : va_at D vwCl (a0, .inr (1, [.int 0, .ref a1, .ref a2, .ref K, .ref (K + 1), .int 0, .ref (K + 2), .ref (K + 7), .ref (K + 8), .int 0, .int 0])) H := hat_a0.kept (oq _ (by omega) (by omega))
  have hat_K : va_at D vwCl (K, .inl (cy 3, 16, .inr (.inr (.inr (.inr (va_up (va_up (va_up (va_up (va_up (fun _ => none) (0 : Int32).toNatClampNeg (some (K + 9))) (1 : Int32).toNatClampNeg (some (K + 19))) (2 : Int32).toNatClampNeg (some (K + 29))) (3 : Int32).toNatClampNeg (some (K + 39))) (4 : Int32).toNatClampNeg (some (K + 49)))))))) H := hat_K.kept (oq _ (by omega) (by omega))
  have hat_K7 : va_at D vwCl ((K + 7), .inl (cy 3, 16, .inr (.inr (.inr (.inr (va_up (va_up (va_up (va_up (va_up (fun _ => none) (0 : Int32).toNatClampNeg (some (K + 14))) (1 : Int32).toNatClampNeg (some (K + 24))) (2 : Int32).toNatClampNeg (some (K + 34))) (3 : Int32).toNatClampNeg (some (K + 44))) (4 : Int32).toNatClampNeg (some (K + 54)))))))) H := hat_K7.kept (oq _ (by omega) (by omega))
  refine W.widen (k := 64) (n := 508) (Nat.le_of_ble_eq_true rfl) (Nat.le_of_ble_eq_true rfl) ?_
  have hG : rc_G D cy ld t ((K + 7) :: K :: a0 :: X) (K + 64) H := hG
  obtain ⟨fs9, hv9, -⟩ := hG.obj (ci := 9) ht59 (by decide) (by omega) (rc_nin (by omega) ( rc_nin (by omega) ( rc_nin (by omega) (hX _ (by omega)))))
  refine rc_aast (ci := 9) (r := (RX9, TX9, 11)) hx hb hK 3 hat_K rfl hv9 rfl (fx_in (by decide)) dX1_init_79 (fun H j9 hat_n z9 oq => ?_)
  have hS := hS.put (k := j9) z9 oq (by show _ = _ ∨ _ ≤ _; omega)
  have hat_a0 : va_at D vwCl (a0, .inr (1, [.int 0, .ref a1, .ref a2, .ref K, .ref (K + 1), .int 0, .ref (K + 2), .ref (K + 7), .ref (K + 8), .int 0, .int 0])) H := hat_a0.kept (oq _ (by omega))
  have hat_K7 : va_at D vwCl ((K + 7), .inl (cy 3, 16, .inr (.inr (.inr (.inr (va_up (va_up (va_up (va_up (va_up (fun _ => none) (0 : Int32).toNatClampNeg (some (K + 14))) (1 : Int32).toNatClampNeg (some (K + 24))) (2 : Int32).toNatClampNeg (some (K + 34))) (3 : Int32).toNatClampNeg (some (K + 44))) (4 : Int32).toNatClampNeg (some (K + 54)))))))) H := hat_K7.kept (oq _ (by omega))
  have hat_K : va_at D vwCl (K, .inl (cy 3, 16, .inr (.inr (.inr (.inr (va_up (va_up (va_up (va_up (va_up (va_up (fun _ => none) (0 : Int32).toNatClampNeg (some (K + 9))) (1 : Int32).toNatClampNeg (some (K + 19))) (2 : Int32).toNatClampNeg (some (K + 29))) (3 : Int32).toNatClampNeg (some (K + 39))) (4 : Int32).toNatClampNeg (some (K + 49))) (5 : Int32).toNatClampNeg (some (K + 59)))))))) H := hat_n
  have hG : rc_G D cy ld t ((K + 7) :: K :: a0 :: X) (K + 64) H := hG.ajar (by simp) z9 oq
  refine lv_aload_n hx hb dX1_init_80 rfl (lv_at hl 1 rfl) ?_
  refine va_get (ci := 1) (C := RX1) (T := TX1) (N := 11) hx hb htl inX1 hown hK.1 (tk_one hat_a0) 0 rfl rfl 7 (by decide) (htl _ mw_112) (fun _ h9 => h9) rfl dX1_init_81 ?_
  refine lv_iload_n hx hb dX1_init_84 rfl (lv_at hl 0 rfl) ?_
  refine rc_new (ci := 9) (fs := [.null, .null, .null, .null, .int 0, .int 0, .int 0, .int 0, .int 0, .int 0, .int 0]) (C := RX9) (T := TX9) (N := 11) hx hb htl inX9 tyX9 tyX9_ok hown (htl _ mw_108) (htl _ mw_75) (htl _ mw_76) hK hG hS rfl dfX9 (Nat.le_of_ble_eq_true rfl) (Nat.le_of_ble_eq_true rfl) dX1_init_85 (fun H hG hat_n oq hS => ?_)
  have hat_a0 : va_at D vwCl (a0, .inr (1, [.int 0, .ref a1, .ref a2, .ref K, .ref (K + 1), .int 0, .ref (K + 2), .ref (K + 7), .ref (K + 8), .int 0, .int 0])) H := hat_a0.kept (oq _ (by omega))
  have hat_K : va_at D vwCl (K, .inl (cy 3, 16, .inr (.inr (.inr (.inr (va_up (va_up (va_up (va_up (va_up (va_up (fun _ => none) (0 : Int32).toNatClampNeg (some (K + 9))) (1 : Int32).toNatClampNeg (some (K + 19))) (2 : Int32).toNatClampNeg (some (K + 29))) (3 : Int32).toNatClampNeg (some (K + 39))) (4 : Int32).toNatClampNeg (some (K + 49))) (5 : Int32).toNatClampNeg (some (K + 59)))))))) H := hat_K.kept (oq _ (by omega))
  have hat_K7 : va_at D vwCl ((K + 7), .inl (cy 3, 16, .inr (.inr (.inr (.inr (va_up (va_up (va_up (va_up (va_up (fun _ => none) (0 : Int32).toNatClampNeg (some (K + 14))) (1 : Int32).toNatClampNeg (some (K + 24))) (2 : Int32).toNatClampNeg (some (K + 34))) (3 : Int32).toNatClampNeg (some (K + 44))) (4 : Int32).toNatClampNeg (some (K + 54)))))))) H := hat_K7.kept (oq _ (by omega))
  refine W.widen (k := 65) (n := 519) (Nat.le_of_ble_eq_true rfl) (Nat.le_of_ble_eq_true rfl) ?_
  have hG : rc_G D cy ld t ((K + 64) :: (K + 7) :: K :: a0 :: X) (K + 65) H := hG
  have hat_K64 : va_at D vwCl ((K + 64), .inr (9, [.null, .null, .null, .null, .int 0, .int 0, .int 0, .int 0, .int 0, .int 0, .int 0])) H := hat_n
  refine lv_dup hx hb dX1_init_88 rfl ?_
  have hXX := kc_X9 l D cy ld t ((K + 7) :: K :: a0 :: X) (K + 64) (K + 65) 3 ht64 hs65  (fun q hq => rc_nin (by omega) (rc_nin (by omega) (rc_nin (by omega) (hX q (by omega)))))
  refine rc_I (As := []) (rest := [.ref (K + 64), .int 5, .ref (K + 7)]) (ci := 9) (n1 := (K + 69)) ⟨hx, hb, hml, hown, hts⟩ hK hG hat_K64 hS (fun q h9 => by show _ = _ ∨ _ ≤ _; omega) hXX ⟨callB_of 0 hts (wl_in mw_80) rfl rfl rfl (htl _ mw_76) (htl _ mw_116) hd_yX9_init ⟨(Nat.le_of_ble_eq_true rfl), (Nat.le_of_ble_eq_true rfl)⟩, rfl, htl _ mw_79⟩ rfl hl.1 rfl (Nat.le_of_ble_eq_true rfl) dX1_init_89 ⟨(Nat.le_of_ble_eq_true rfl), (Nat.le_of_ble_eq_true rfl)⟩ (fun H locs hG oq hS => ?_)
  have hat_a0 : va_at D vwCl (a0, .inr (1, [.int 0, .ref a1, .ref a2, .ref K, .ref (K + 1), .int 0, .ref (K + 2), .ref (K + 7), .ref (K + 8), .int 0, .int 0])) H := hat_a0.kept (oq _ (by omega) (by omega))
  have hat_K : va_at D vwCl (K, .inl (cy 3, 16, .inr (.inr (.inr (.inr (va_up (va_up (va_up (va_up (va_up (va_up (fun _ => none) (0 : Int32).toNatClampNeg (some (K + 9))) (1 : Int32).toNatClampNeg (some (K + 19))) (2 : Int32).toNatClampNeg (some (K + 29))) (3 : Int32).toNatClampNeg (some (K + 39))) (4 : Int32).toNatClampNeg (some (K + 49))) (5 : Int32).toNatClampNeg (some (K + 59)))))))) H := hat_K.kept (oq _ (by omega) (by omega))
  have hat_K7 : va_at D vwCl ((K + 7), .inl (cy 3, 16, .inr (.inr (.inr (.inr (va_up (va_up (va_up (va_up (va_up (fun _ => none) (0 : Int32).toNatClampNeg (some (K + 14))) (1 : Int32).toNatClampNeg (some (K + 24))) (2 : Int32).toNatClampNeg (some (K + 34))) (3 : Int32).toNatClampNeg (some (K + 44))) (4 : Int32).toNatClampNeg (some (K + 54)))))))) H := hat_K7.kept (oq _ (by omega) (by omega))
  refine W.widen (k := 69) (n := 545) (Nat.le_of_ble_eq_true rfl) (Nat.le_of_ble_eq_true rfl) ?_
  have hG : rc_G D cy ld t ((K + 7) :: K :: a0 :: X) (K + 69) H := hG
  obtain ⟨fs9, hv9, -⟩ := hG.obj (ci := 9) ht64 (by decide) (by omega) (rc_nin (by omega) ( rc_nin (by omega) ( rc_nin (by omega) (hX _ (by omega)))))
  refine rc_aast (ci := 9) (r := (RX9, TX9, 11)) hx hb hK 3 hat_K7 rfl hv9 rfl (fx_in (by decide)) dX1_init_92 (fun H j9 hat_n z9 oq => ?_)
  have hS := hS.put (k := j9) z9 oq (by show _ = _ ∨ _ ≤ _; omega)
  have hat_a0 : va_at D vwCl (a0, .inr (1, [.int 0, .ref a1, .ref a2, .ref K, .ref (K + 1), .int 0, .ref (K + 2), .ref (K + 7), .ref (K + 8), .int 0, .int 0])) H := hat_a0.kept (oq _ (by omega))
  have hat_K : va_at D vwCl (K, .inl (cy 3, 16, .inr (.inr (.inr (.inr (va_up (va_up (va_up (va_up (va_up (va_up (fun _ => none) (0 : Int32).toNatClampNeg (some (K + 9))) (1 : Int32).toNatClampNeg (some (K + 19))) (2 : Int32).toNatClampNeg (some (K + 29))) (3 : Int32).toNatClampNeg (some (K + 39))) (4 : Int32).toNatClampNeg (some (K + 49))) (5 : Int32).toNatClampNeg (some (K + 59)))))))) H := hat_K.kept (oq _ (by omega))
  have hat_K7 : va_at D vwCl ((K + 7), .inl (cy 3, 16, .inr (.inr (.inr (.inr (va_up (va_up (va_up (va_up (va_up (va_up (fun _ => none) (0 : Int32).toNatClampNeg (some (K + 14))) (1 : Int32).toNatClampNeg (some (K + 24))) (2 : Int32).toNatClampNeg (some (K + 34))) (3 : Int32).toNatClampNeg (some (K + 44))) (4 : Int32).toNatClampNeg (some (K + 54))) (5 : Int32).toNatClampNeg (some (K + 64)))))))) H := hat_n
  have hG : rc_G D cy ld t ((K + 7) :: K :: a0 :: X) (K + 69) H := hG.ajar (by simp) z9 oq
  refine lv_iinc (v := 6) (lv' := [(3, .int 6), (0, .ref a0), (1, .ref a1), (2, .ref a2)]) hx hb dX1_init_93 hl (k := 0) rfl (by decide) (by decide) rfl (fun ls hl => ?_)
  refine lv_goto (tgt := 61) hx hb dX1_init_96 (by decide) ?_
  refine lv_iload_n hx hb dX1_init_61 rfl (lv_at hl 0 rfl) ?_
  refine lv_bipush (v := 16) hx hb dX1_init_62 (by decide) ?_
  refine lv_icmp_ge (tgt := 99) hx hb dX1_init_64 (by decide) (fun c9 => absurd c9 (by decide)) (fun _ => ?_)
  refine lv_aload_n hx hb dX1_init_67 rfl (lv_at hl 1 rfl) ?_
  refine va_get (ci := 1) (C := RX1) (T := TX1) (N := 11) hx hb htl inX1 hown hK.1 (tk_one hat_a0) 0 rfl rfl 3 (by decide) (htl _ mw_109) (fun _ h9 => h9) rfl dX1_init_68 ?_
  refine lv_iload_n hx hb dX1_init_71 rfl (lv_at hl 0 rfl) ?_
  refine rc_new (ci := 9) (fs := [.null, .null, .null, .null, .int 0, .int 0, .int 0, .int 0, .int 0, .int 0, .int 0]) (C := RX9) (T := TX9) (N := 11) hx hb htl inX9 tyX9 tyX9_ok hown (htl _ mw_108) (htl _ mw_75) (htl _ mw_76) hK hG hS rfl dfX9 (Nat.le_of_ble_eq_true rfl) (Nat.le_of_ble_eq_true rfl) dX1_init_72 (fun H hG hat_n oq hS => ?_)
  have hat_a0 : va_at D vwCl (a0, .inr (1, [.int 0, .ref a1, .ref a2, .ref K, .ref (K + 1), .int 0, .ref (K + 2), .ref (K + 7), .ref (K + 8), .int 0, .int 0])) H := hat_a0.kept (oq _ (by omega))
  have hat_K : va_at D vwCl (K, .inl (cy 3, 16, .inr (.inr (.inr (.inr (va_up (va_up (va_up (va_up (va_up (va_up (fun _ => none) (0 : Int32).toNatClampNeg (some (K + 9))) (1 : Int32).toNatClampNeg (some (K + 19))) (2 : Int32).toNatClampNeg (some (K + 29))) (3 : Int32).toNatClampNeg (some (K + 39))) (4 : Int32).toNatClampNeg (some (K + 49))) (5 : Int32).toNatClampNeg (some (K + 59)))))))) H := hat_K.kept (oq _ (by omega))
  have hat_K7 : va_at D vwCl ((K + 7), .inl (cy 3, 16, .inr (.inr (.inr (.inr (va_up (va_up (va_up (va_up (va_up (va_up (fun _ => none) (0 : Int32).toNatClampNeg (some (K + 14))) (1 : Int32).toNatClampNeg (some (K + 24))) (2 : Int32).toNatClampNeg (some (K + 34))) (3 : Int32).toNatClampNeg (some (K + 44))) (4 : Int32).toNatClampNeg (some (K + 54))) (5 : Int32).toNatClampNeg (some (K + 64)))))))) H := hat_K7.kept (oq _ (by omega))
  refine W.widen (k := 70) (n := 556) (Nat.le_of_ble_eq_true rfl) (Nat.le_of_ble_eq_true rfl) ?_
  have hG : rc_G D cy ld t ((K + 69) :: (K + 7) :: K :: a0 :: X) (K + 70) H := hG
  have hat_K69 : va_at D vwCl ((K + 69), .inr (9, [.null, .null, .null, .null, .int 0, .int 0, .int 0, .int 0, .int 0, .int 0, .int 0])) H := hat_n
  refine lv_dup hx hb dX1_init_75 rfl ?_
  have hXX := kc_X9 l D cy ld t ((K + 7) :: K :: a0 :: X) (K + 69) (K + 70) 1 ht69 hs70  (fun q hq => rc_nin (by omega) (rc_nin (by omega) (rc_nin (by omega) (hX q (by omega)))))
  refine rc_I (As := []) (rest := [.ref (K + 69), .int 6, .ref K]) (ci := 9) (n1 := (K + 74)) ⟨hx, hb, hml, hown, hts⟩ hK hG hat_K69 hS (fun q h9 => by show _ = _ ∨ _ ≤ _; omega) hXX ⟨callB_of 0 hts (wl_in mw_80) rfl rfl rfl (htl _ mw_76) (htl _ mw_116) hd_yX9_init ⟨(Nat.le_of_ble_eq_true rfl), (Nat.le_of_ble_eq_true rfl)⟩, rfl, htl _ mw_79⟩ rfl hl.1 rfl (Nat.le_of_ble_eq_true rfl) dX1_init_76 ⟨(Nat.le_of_ble_eq_true rfl), (Nat.le_of_ble_eq_true rfl)⟩ (fun H locs hG oq hS => ?_)
  have hat_a0 : va_at D vwCl (a0, .inr (1, [.int 0, .ref a1, .ref a2, .ref K, .ref (K + 1), .int 0, .ref (K + 2), .ref (K + 7), .ref (K + 8), .int 0, .int 0])) H := hat_a0.kept (oq _ (by omega) (by omega))
  have hat_K : va_at D vwCl (K, .inl (cy 3, 16, .inr (.inr (.inr (.inr (va_up (va_up (va_up (va_up (va_up (va_up (fun _ => none) (0 : Int32).toNatClampNeg (some (K + 9))) (1 : Int32).toNatClampNeg (some (K + 19))) (2 : Int32).toNatClampNeg (some (K + 29))) (3 : Int32).toNatClampNeg (some (K + 39))) (4 : Int32).toNatClampNeg (some (K + 49))) (5 : Int32).toNatClampNeg (some (K + 59)))))))) H := hat_K.kept (oq _ (by omega) (by omega))
  have hat_K7 : va_at D vwCl ((K + 7), .inl (cy 3, 16, .inr (.inr (.inr (.inr (va_up (va_up (va_up (va_up (va_up (va_up (fun _ => none) (0 : Int32).toNatClampNeg (some (K + 14))) (1 : Int32).toNatClampNeg (some (K + 24))) (2 : Int32).toNatClampNeg (some (K + 34))) (3 : Int32).toNatClampNeg (some (K + 44))) (4 : Int32).toNatClampNeg (some (K + 54))) (5 : Int32).toNatClampNeg (some (K + 64)))))))) H := hat_K7.kept (oq _ (by omega) (by omega))
  refine W.widen (k := 74) (n := 582) (Nat.le_of_ble_eq_true rfl) (Nat.le_of_ble_eq_true rfl) ?_
  have hG : rc_G D cy ld t ((K + 7) :: K :: a0 :: X) (K + 74) H := hG
  obtain ⟨fs9, hv9, -⟩ := hG.obj (ci := 9) ht69 (by decide) (by omega) (rc_nin (by omega) ( rc_nin (by omega) ( rc_nin (by omega) (hX _ (by omega)))))
  refine rc_aast (ci := 9) (r := (RX9, TX9, 11)) hx hb hK 3 hat_K rfl hv9 rfl (fx_in (by decide)) dX1_init_79 (fun H j9 hat_n z9 oq => ?_)
  have hS := hS.put (k := j9) z9 oq (by show _ = _ ∨ _ ≤ _; omega)
  have hat_a0 : va_at D vwCl (a0, .inr (1, [.int 0, .ref a1, .ref a2, .ref K, .ref (K + 1), .int 0, .ref (K + 2), .ref (K + 7), .ref (K + 8), .int 0, .int 0])) H := hat_a0.kept (oq _ (by omega))
  have hat_K7 : va_at D vwCl ((K + 7), .inl (cy 3, 16, .inr (.inr (.inr (.inr (va_up (va_up (va_up (va_up (va_up (va_up (fun _ => none) (0 : Int32).toNatClampNeg (some (K + 14))) (1 : Int32).toNatClampNeg (some (K + 24))) (2 : Int32).toNatClampNeg (some (K + 34))) (3 : Int32).toNatClampNeg (some (K + 44))) (4 : Int32).toNatClampNeg (some (K + 54))) (5 : Int32).toNatClampNeg (some (K + 64)))))))) H := hat_K7.kept (oq _ (by omega))
  have hat_K : va_at D vwCl (K, .inl (cy 3, 16, .inr (.inr (.inr (.inr (va_up (va_up (va_up (va_up (va_up (va_up (va_up (fun _ => none) (0 : Int32).toNatClampNeg (some (K + 9))) (1 : Int32).toNatClampNeg (some (K + 19))) (2 : Int32).toNatClampNeg (some (K + 29))) (3 : Int32).toNatClampNeg (some (K + 39))) (4 : Int32).toNatClampNeg (some (K + 49))) (5 : Int32).toNatClampNeg (some (K + 59))) (6 : Int32).toNatClampNeg (some (K + 69)))))))) H := hat_n
  have hG : rc_G D cy ld t ((K + 7) :: K :: a0 :: X) (K + 74) H := hG.ajar (by simp) z9 oq
  refine lv_aload_n hx hb dX1_init_80 rfl (lv_at hl 1 rfl) ?_
  refine va_get (ci := 1) (C := RX1) (T := TX1) (N := 11) hx hb htl inX1 hown hK.1 (tk_one hat_a0) 0 rfl rfl 7 (by decide) (htl _ mw_112) (fun _ h9 => h9) rfl dX1_init_81 ?_
  refine lv_iload_n hx hb dX1_init_84 rfl (lv_at hl 0 rfl) ?_
  refine rc_new (ci := 9) (fs := [.null, .null, .null, .null, .int 0, .int 0, .int 0, .int 0, .int 0, .int 0, .int 0]) (C := RX9) (T := TX9) (N := 11) hx hb htl inX9 tyX9 tyX9_ok hown (htl _ mw_108) (htl _ mw_75) (htl _ mw_76) hK hG hS rfl dfX9 (Nat.le_of_ble_eq_true rfl) (Nat.le_of_ble_eq_true rfl) dX1_init_85 (fun H hG hat_n oq hS => ?_)
  have hat_a0 : va_at D vwCl (a0, .inr (1, [.int 0, .ref a1, .ref a2, .ref K, .ref (K + 1), .int 0, .ref (K + 2), .ref (K + 7), .ref (K + 8), .int 0, .int 0])) H := hat_a0.kept (oq _ (by omega))
  have hat_K : va_at D vwCl (K, .inl (cy 3, 16, .inr (.inr (.inr (.inr (va_up (va_up (va_up (va_up (va_up (va_up (va_up (fun _ => none) (0 : Int32).toNatClampNeg (some (K + 9))) (1 : Int32).toNatClampNeg (some (K + 19))) (2 : Int32).toNatClampNeg (some (K + 29))) (3 : Int32).toNatClampNeg (some (K + 39))) (4 : Int32).toNatClampNeg (some (K + 49))) (5 : Int32).toNatClampNeg (some (K + 59))) (6 : Int32).toNatClampNeg (some (K + 69)))))))) H := hat_K.kept (oq _ (by omega))
  have hat_K7 : va_at D vwCl ((K + 7), .inl (cy 3, 16, .inr (.inr (.inr (.inr (va_up (va_up (va_up (va_up (va_up (va_up (fun _ => none) (0 : Int32).toNatClampNeg (some (K + 14))) (1 : Int32).toNatClampNeg (some (K + 24))) (2 : Int32).toNatClampNeg (some (K + 34))) (3 : Int32).toNatClampNeg (some (K + 44))) (4 : Int32).toNatClampNeg (some (K + 54))) (5 : Int32).toNatClampNeg (some (K + 64)))))))) H := hat_K7.kept (oq _ (by omega))
  refine W.widen (k := 75) (n := 593) (Nat.le_of_ble_eq_true rfl) (Nat.le_of_ble_eq_true rfl) ?_
  have hG : rc_G D cy ld t ((K + 74) :: (K + 7) :: K :: a0 :: X) (K + 75) H := hG
  have hat_K74 : va_at D vwCl ((K + 74), .inr (9, [.null, .null, .null, .null, .int 0, .int 0, .int 0, .int 0, .int 0, .int 0, .int 0])) H := hat_n
  refine lv_dup hx hb dX1_init_88 rfl ?_
  have hXX := kc_X9 l D cy ld t ((K + 7) :: K :: a0 :: X) (K + 74) (K + 75) 3 ht74 hs75  (fun q hq => rc_nin (by omega) (rc_nin (by omega) (rc_nin (by omega) (hX q (by omega)))))
  refine rc_I (As := []) (rest := [.ref (K + 74), .int 6, .ref (K + 7)]) (ci := 9) (n1 := (K + 79)) ⟨hx, hb, hml, hown, hts⟩ hK hG hat_K74 hS (fun q h9 => by show _ = _ ∨ _ ≤ _; omega) hXX ⟨callB_of 0 hts (wl_in mw_80) rfl rfl rfl (htl _ mw_76) (htl _ mw_116) hd_yX9_init ⟨(Nat.le_of_ble_eq_true rfl), (Nat.le_of_ble_eq_true rfl)⟩, rfl, htl _ mw_79⟩ rfl hl.1 rfl (Nat.le_of_ble_eq_true rfl) dX1_init_89 ⟨(Nat.le_of_ble_eq_true rfl), (Nat.le_of_ble_eq_true rfl)⟩ (fun H locs hG oq hS => ?_)
  have hat_a0 : va_at D vwCl (a0, .inr (1, [.int 0, .ref a1, .ref a2, .ref K, .ref (K + 1), .int 0, .ref (K + 2), .ref (K + 7), .ref (K + 8), .int 0, .int 0])) H := hat_a0.kept (oq _ (by omega) (by omega))
  have hat_K : va_at D vwCl (K, .inl (cy 3, 16, .inr (.inr (.inr (.inr (va_up (va_up (va_up (va_up (va_up (va_up (va_up (fun _ => none) (0 : Int32).toNatClampNeg (some (K + 9))) (1 : Int32).toNatClampNeg (some (K + 19))) (2 : Int32).toNatClampNeg (some (K + 29))) (3 : Int32).toNatClampNeg (some (K + 39))) (4 : Int32).toNatClampNeg (some (K + 49))) (5 : Int32).toNatClampNeg (some (K + 59))) (6 : Int32).toNatClampNeg (some (K + 69)))))))) H := hat_K.kept (oq _ (by omega) (by omega))
  have hat_K7 : va_at D vwCl ((K + 7), .inl (cy 3, 16, .inr (.inr (.inr (.inr (va_up (va_up (va_up (va_up (va_up (va_up (fun _ => none) (0 : Int32).toNatClampNeg (some (K + 14))) (1 : Int32).toNatClampNeg (some (K + 24))) (2 : Int32).toNatClampNeg (some (K + 34))) (3 : Int32).toNatClampNeg (some (K + 44))) (4 : Int32).toNatClampNeg (some (K + 54))) (5 : Int32).toNatClampNeg (some (K + 64)))))))) H := hat_K7.kept (oq _ (by omega) (by omega))
  refine W.widen (k := 79) (n := 619) (Nat.le_of_ble_eq_true rfl) (Nat.le_of_ble_eq_true rfl) ?_
  have hG : rc_G D cy ld t ((K + 7) :: K :: a0 :: X) (K + 79) H := hG
  obtain ⟨fs9, hv9, -⟩ := hG.obj (ci := 9) ht74 (by decide) (by omega) (rc_nin (by omega) ( rc_nin (by omega) ( rc_nin (by omega) (hX _ (by omega)))))
  refine rc_aast (ci := 9) (r := (RX9, TX9, 11)) hx hb hK 3 hat_K7 rfl hv9 rfl (fx_in (by decide)) dX1_init_92 (fun H j9 hat_n z9 oq => ?_)
  have hS := hS.put (k := j9) z9 oq (by show _ = _ ∨ _ ≤ _; omega)
  have hat_a0 : va_at D vwCl (a0, .inr (1, [.int 0, .ref a1, .ref a2, .ref K, .ref (K + 1), .int 0, .ref (K + 2), .ref (K + 7), .ref (K + 8), .int 0, .int 0])) H := hat_a0.kept (oq _ (by omega))
  have hat_K : va_at D vwCl (K, .inl (cy 3, 16, .inr (.inr (.inr (.inr (va_up (va_up (va_up (va_up (va_up (va_up (va_up (fun _ => none) (0 : Int32).toNatClampNeg (some (K + 9))) (1 : Int32).toNatClampNeg (some (K + 19))) (2 : Int32).toNatClampNeg (some (K + 29))) (3 : Int32).toNatClampNeg (some (K + 39))) (4 : Int32).toNatClampNeg (some (K + 49))) (5 : Int32).toNatClampNeg (some (K + 59))) (6 : Int32).toNatClampNeg (some (K + 69)))))))) H := hat_K.kept (oq _ (by omega))
  have hat_K7 : va_at D vwCl ((K + 7), .inl (cy 3, 16, .inr (.inr (.inr (.inr (va_up (va_up (va_up (va_up (va_up (va_up (va_up (fun _ => none) (0 : Int32).toNatClampNeg (some (K + 14))) (1 : Int32).toNatClampNeg (some (K + 24))) (2 : Int32).toNatClampNeg (some (K + 34))) (3 : Int32).toNatClampNeg (some (K + 44))) (4 : Int32).toNatClampNeg (some (K + 54))) (5 : Int32).toNatClampNeg (some (K + 64))) (6 : Int32).toNatClampNeg (some (K + 74)))))))) H := hat_n
  have hG : rc_G D cy ld t ((K + 7) :: K :: a0 :: X) (K + 79) H := hG.ajar (by simp) z9 oq
  refine lv_iinc (v := 7) (lv' := [(3, .int 7), (0, .ref a0), (1, .ref a1), (2, .ref a2)]) hx hb dX1_init_93 hl (k := 0) rfl (by decide) (by decide) rfl (fun ls hl => ?_)
  refine lv_goto (tgt := 61) hx hb dX1_init_96 (by decide) ?_
  refine lv_iload_n hx hb dX1_init_61 rfl (lv_at hl 0 rfl) ?_
  refine lv_bipush (v := 16) hx hb dX1_init_62 (by decide) ?_
  refine lv_icmp_ge (tgt := 99) hx hb dX1_init_64 (by decide) (fun c9 => absurd c9 (by decide)) (fun _ => ?_)
  refine lv_aload_n hx hb dX1_init_67 rfl (lv_at hl 1 rfl) ?_
  refine va_get (ci := 1) (C := RX1) (T := TX1) (N := 11) hx hb htl inX1 hown hK.1 (tk_one hat_a0) 0 rfl rfl 3 (by decide) (htl _ mw_109) (fun _ h9 => h9) rfl dX1_init_68 ?_
  refine lv_iload_n hx hb dX1_init_71 rfl (lv_at hl 0 rfl) ?_
  refine rc_new (ci := 9) (fs := [.null, .null, .null, .null, .int 0, .int 0, .int 0, .int 0, .int 0, .int 0, .int 0]) (C := RX9) (T := TX9) (N := 11) hx hb htl inX9 tyX9 tyX9_ok hown (htl _ mw_108) (htl _ mw_75) (htl _ mw_76) hK hG hS rfl dfX9 (Nat.le_of_ble_eq_true rfl) (Nat.le_of_ble_eq_true rfl) dX1_init_72 (fun H hG hat_n oq hS => ?_)
  have hat_a0 : va_at D vwCl (a0, .inr (1, [.int 0, .ref a1, .ref a2, .ref K, .ref (K + 1), .int 0, .ref (K + 2), .ref (K + 7), .ref (K + 8), .int 0, .int 0])) H := hat_a0.kept (oq _ (by omega))
  have hat_K : va_at D vwCl (K, .inl (cy 3, 16, .inr (.inr (.inr (.inr (va_up (va_up (va_up (va_up (va_up (va_up (va_up (fun _ => none) (0 : Int32).toNatClampNeg (some (K + 9))) (1 : Int32).toNatClampNeg (some (K + 19))) (2 : Int32).toNatClampNeg (some (K + 29))) (3 : Int32).toNatClampNeg (some (K + 39))) (4 : Int32).toNatClampNeg (some (K + 49))) (5 : Int32).toNatClampNeg (some (K + 59))) (6 : Int32).toNatClampNeg (some (K + 69)))))))) H := hat_K.kept (oq _ (by omega))
  have hat_K7 : va_at D vwCl ((K + 7), .inl (cy 3, 16, .inr (.inr (.inr (.inr (va_up (va_up (va_up (va_up (va_up (va_up (va_up (fun _ => none) (0 : Int32).toNatClampNeg (some (K + 14))) (1 : Int32).toNatClampNeg (some (K + 24))) (2 : Int32).toNatClampNeg (some (K + 34))) (3 : Int32).toNatClampNeg (some (K + 44))) (4 : Int32).toNatClampNeg (some (K + 54))) (5 : Int32).toNatClampNeg (some (K + 64))) (6 : Int32).toNatClampNeg (some (K + 74)))))))) H := hat_K7.kept (oq _ (by omega))
  refine W.widen (k := 80) (n := 630) (Nat.le_of_ble_eq_true rfl) (Nat.le_of_ble_eq_true rfl) ?_
  have hG : rc_G D cy ld t ((K + 79) :: (K + 7) :: K :: a0 :: X) (K + 80) H := hG
  have hat_K79 : va_at D vwCl ((K + 79), .inr (9, [.null, .null, .null, .null, .int 0, .int 0, .int 0, .int 0, .int 0, .int 0, .int 0])) H := hat_n
  refine lv_dup hx hb dX1_init_75 rfl ?_
  have hXX := kc_X9 l D cy ld t ((K + 7) :: K :: a0 :: X) (K + 79) (K + 80) 1 ht79 hs80  (fun q hq => rc_nin (by omega) (rc_nin (by omega) (rc_nin (by omega) (hX q (by omega)))))
  refine rc_I (As := []) (rest := [.ref (K + 79), .int 7, .ref K]) (ci := 9) (n1 := (K + 84)) ⟨hx, hb, hml, hown, hts⟩ hK hG hat_K79 hS (fun q h9 => by show _ = _ ∨ _ ≤ _; omega) hXX ⟨callB_of 0 hts (wl_in mw_80) rfl rfl rfl (htl _ mw_76) (htl _ mw_116) hd_yX9_init ⟨(Nat.le_of_ble_eq_true rfl), (Nat.le_of_ble_eq_true rfl)⟩, rfl, htl _ mw_79⟩ rfl hl.1 rfl (Nat.le_of_ble_eq_true rfl) dX1_init_76 ⟨(Nat.le_of_ble_eq_true rfl), (Nat.le_of_ble_eq_true rfl)⟩ (fun H locs hG oq hS => ?_)
  have hat_a0 : va_at D vwCl (a0, .inr (1, [.int 0, .ref a1, .ref a2, .ref K, .ref (K + 1), .int 0, .ref (K + 2), .ref (K + 7), .ref (K + 8), .int 0, .int 0])) H := hat_a0.kept (oq _ (by omega) (by omega))
  have hat_K : va_at D vwCl (K, .inl (cy 3, 16, .inr (.inr (.inr (.inr (va_up (va_up (va_up (va_up (va_up (va_up (va_up (fun _ => none) (0 : Int32).toNatClampNeg (some (K + 9))) (1 : Int32).toNatClampNeg (some (K + 19))) (2 : Int32).toNatClampNeg (some (K + 29))) (3 : Int32).toNatClampNeg (some (K + 39))) (4 : Int32).toNatClampNeg (some (K + 49))) (5 : Int32).toNatClampNeg (some (K + 59))) (6 : Int32).toNatClampNeg (some (K + 69)))))))) H := hat_K.kept (oq _ (by omega) (by omega))
  have hat_K7 : va_at D vwCl ((K + 7), .inl (cy 3, 16, .inr (.inr (.inr (.inr (va_up (va_up (va_up (va_up (va_up (va_up (va_up (fun _ => none) (0 : Int32).toNatClampNeg (some (K + 14))) (1 : Int32).toNatClampNeg (some (K + 24))) (2 : Int32).toNatClampNeg (some (K + 34))) (3 : Int32).toNatClampNeg (some (K + 44))) (4 : Int32).toNatClampNeg (some (K + 54))) (5 : Int32).toNatClampNeg (some (K + 64))) (6 : Int32).toNatClampNeg (some (K + 74)))))))) H := hat_K7.kept (oq _ (by omega) (by omega))
  refine W.widen (k := 84) (n := 656) (Nat.le_of_ble_eq_true rfl) (Nat.le_of_ble_eq_true rfl) ?_
  have hG : rc_G D cy ld t ((K + 7) :: K :: a0 :: X) (K + 84) H := hG
  obtain ⟨fs9, hv9, -⟩ := hG.obj (ci := 9) ht79 (by decide) (by omega) (rc_nin (by omega) ( rc_nin (by omega) ( rc_nin (by omega) (hX _ (by omega)))))
  refine rc_aast (ci := 9) (r := (RX9, TX9, 11)) hx hb hK 3 hat_K rfl hv9 rfl (fx_in (by decide)) dX1_init_79 (fun H j9 hat_n z9 oq => ?_)
  have hS := hS.put (k := j9) z9 oq (by show _ = _ ∨ _ ≤ _; omega)
  have hat_a0 : va_at D vwCl (a0, .inr (1, [.int 0, .ref a1, .ref a2, .ref K, .ref (K + 1), .int 0, .ref (K + 2), .ref (K + 7), .ref (K + 8), .int 0, .int 0])) H := hat_a0.kept (oq _ (by omega))
  have hat_K7 : va_at D vwCl ((K + 7), .inl (cy 3, 16, .inr (.inr (.inr (.inr (va_up (va_up (va_up (va_up (va_up (va_up (va_up (fun _ => none) (0 : Int32).toNatClampNeg (some (K + 14))) (1 : Int32).toNatClampNeg (some (K + 24))) (2 : Int32).toNatClampNeg (some (K + 34))) (3 : Int32).toNatClampNeg (some (K + 44))) (4 : Int32).toNatClampNeg (some (K + 54))) (5 : Int32).toNatClampNeg (some (K + 64))) (6 : Int32).toNatClampNeg (some (K + 74)))))))) H := hat_K7.kept (oq _ (by omega))
  have hat_K : va_at D vwCl (K, .inl (cy 3, 16, .inr (.inr (.inr (.inr (va_up (va_up (va_up (va_up (va_up (va_up (va_up (va_up (fun _ => none) (0 : Int32).toNatClampNeg (some (K + 9))) (1 : Int32).toNatClampNeg (some (K + 19))) (2 : Int32).toNatClampNeg (some (K + 29))) (3 : Int32).toNatClampNeg (some (K + 39))) (4 : Int32).toNatClampNeg (some (K + 49))) (5 : Int32).toNatClampNeg (some (K + 59))) (6 : Int32).toNatClampNeg (some (K + 69))) (7 : Int32).toNatClampNeg (some (K + 79)))))))) H := hat_n
  have hG : rc_G D cy ld t ((K + 7) :: K :: a0 :: X) (K + 84) H := hG.ajar (by simp) z9 oq
  refine lv_aload_n hx hb dX1_init_80 rfl (lv_at hl 1 rfl) ?_
  refine va_get (ci := 1) (C := RX1) (T := TX1) (N := 11) hx hb htl inX1 hown hK.1 (tk_one hat_a0) 0 rfl rfl 7 (by decide) (htl _ mw_112) (fun _ h9 => h9) rfl dX1_init_81 ?_
  refine lv_iload_n hx hb dX1_init_84 rfl (lv_at hl 0 rfl) ?_
  refine rc_new (ci := 9) (fs := [.null, .null, .null, .null, .int 0, .int 0, .int 0, .int 0, .int 0, .int 0, .int 0]) (C := RX9) (T := TX9) (N := 11) hx hb htl inX9 tyX9 tyX9_ok hown (htl _ mw_108) (htl _ mw_75) (htl _ mw_76) hK hG hS rfl dfX9 (Nat.le_of_ble_eq_true rfl) (Nat.le_of_ble_eq_true rfl) dX1_init_85 (fun H hG hat_n oq hS => ?_)
  have hat_a0 : va_at D vwCl (a0, .inr (1, [.int 0, .ref a1, .ref a2, .ref K, .ref (K + 1), .int 0, .ref (K + 2), .ref (K + 7), .ref (K + 8), .int 0, .int 0])) H := hat_a0.kept (oq _ (by omega))
  have hat_K : va_at D vwCl (K, .inl (cy 3, 16, .inr (.inr (.inr (.inr (va_up (va_up (va_up (va_up (va_up (va_up (va_up (va_up (fun _ => none) (0 : Int32).toNatClampNeg (some (K + 9))) (1 : Int32).toNatClampNeg (some (K + 19))) (2 : Int32).toNatClampNeg (some (K + 29))) (3 : Int32).toNatClampNeg (some (K + 39))) (4 : Int32).toNatClampNeg (some (K + 49))) (5 : Int32).toNatClampNeg (some (K + 59))) (6 : Int32).toNatClampNeg (some (K + 69))) (7 : Int32).toNatClampNeg (some (K + 79)))))))) H := hat_K.kept (oq _ (by omega))
  have hat_K7 : va_at D vwCl ((K + 7), .inl (cy 3, 16, .inr (.inr (.inr (.inr (va_up (va_up (va_up (va_up (va_up (va_up (va_up (fun _ => none) (0 : Int32).toNatClampNeg (some (K + 14))) (1 : Int32).toNatClampNeg (some (K + 24))) (2 : Int32).toNatClampNeg (some (K + 34))) (3 : Int32).toNatClampNeg (some (K + 44))) (4 : Int32).toNatClampNeg (some (K + 54))) (5 : Int32).toNatClampNeg (some (K + 64))) (6 : Int32).toNatClampNeg (some (K + 74)))))))) H := hat_K7.kept (oq _ (by omega))
  refine W.widen (k := 85) (n := 667) (Nat.le_of_ble_eq_true rfl) (Nat.le_of_ble_eq_true rfl) ?_
  have hG : rc_G D cy ld t ((K + 84) :: (K + 7) :: K :: a0 :: X) (K + 85) H := hG
  have hat_K84 : va_at D vwCl ((K + 84), .inr (9, [.null, .null, .null, .null, .int 0, .int 0, .int 0, .int 0, .int 0, .int 0, .int 0])) H := hat_n
  refine lv_dup hx hb dX1_init_88 rfl ?_
  have hXX := kc_X9 l D cy ld t ((K + 7) :: K :: a0 :: X) (K + 84) (K + 85) 3 ht84 hs85  (fun q hq => rc_nin (by omega) (rc_nin (by omega) (rc_nin (by omega) (hX q (by omega)))))
  refine rc_I (As := []) (rest := [.ref (K + 84), .int 7, .ref (K + 7)]) (ci := 9) (n1 := (K + 89)) ⟨hx, hb, hml, hown, hts⟩ hK hG hat_K84 hS (fun q h9 => by show _ = _ ∨ _ ≤ _; omega) hXX ⟨callB_of 0 hts (wl_in mw_80) rfl rfl rfl (htl _ mw_76) (htl _ mw_116) hd_yX9_init ⟨(Nat.le_of_ble_eq_true rfl), (Nat.le_of_ble_eq_true rfl)⟩, rfl, htl _ mw_79⟩ rfl hl.1 rfl (Nat.le_of_ble_eq_true rfl) dX1_init_89 ⟨(Nat.le_of_ble_eq_true rfl), (Nat.le_of_ble_eq_true rfl)⟩ (fun H locs hG oq hS => ?_)
  have hat_a0 : va_at D vwCl (a0, .inr (1, [.int 0, .ref a1, .ref a2, .ref K, .ref (K + 1), .int 0, .ref (K + 2), .ref (K + 7), .ref (K + 8), .int 0, .int 0])) H := hat_a0.kept (oq _ (by omega) (by omega))
  have hat_K : va_at D vwCl (K, .inl (cy 3, 16, .inr (.inr (.inr (.inr (va_up (va_up (va_up (va_up (va_up (va_up (va_up (va_up (fun _ => none) (0 : Int32).toNatClampNeg (some (K + 9))) (1 : Int32).toNatClampNeg (some (K + 19))) (2 : Int32).toNatClampNeg (some (K + 29))) (3 : Int32).toNatClampNeg (some (K + 39))) (4 : Int32).toNatClampNeg (some (K + 49))) (5 : Int32).toNatClampNeg (some (K + 59))) (6 : Int32).toNatClampNeg (some (K + 69))) (7 : Int32).toNatClampNeg (some (K + 79)))))))) H := hat_K.kept (oq _ (by omega) (by omega))
  have hat_K7 : va_at D vwCl ((K + 7), .inl (cy 3, 16, .inr (.inr (.inr (.inr (va_up (va_up (va_up (va_up (va_up (va_up (va_up (fun _ => none) (0 : Int32).toNatClampNeg (some (K + 14))) (1 : Int32).toNatClampNeg (some (K + 24))) (2 : Int32).toNatClampNeg (some (K + 34))) (3 : Int32).toNatClampNeg (some (K + 44))) (4 : Int32).toNatClampNeg (some (K + 54))) (5 : Int32).toNatClampNeg (some (K + 64))) (6 : Int32).toNatClampNeg (some (K + 74)))))))) H := hat_K7.kept (oq _ (by omega) (by omega))
  refine W.widen (k := 89) (n := 693) (Nat.le_of_ble_eq_true rfl) (Nat.le_of_ble_eq_true rfl) ?_
  have hG : rc_G D cy ld t ((K + 7) :: K :: a0 :: X) (K + 89) H := hG
  obtain ⟨fs9, hv9, -⟩ := hG.obj (ci := 9) ht84 (by decide) (by omega) (rc_nin (by omega) ( rc_nin (by omega) ( rc_nin (by omega) (hX _ (by omega)))))
  refine rc_aast (ci := 9) (r := (RX9, TX9, 11)) hx hb hK 3 hat_K7 rfl hv9 rfl (fx_in (by decide)) dX1_init_92 (fun H j9 hat_n z9 oq => ?_)
  have hS := hS.put (k := j9) z9 oq (by show _ = _ ∨ _ ≤ _; omega)
  have hat_a0 : va_at D vwCl (a0, .inr (1, [.int 0, .ref a1, .ref a2, .ref K, .ref (K + 1), .int 0, .ref (K + 2), .ref (K + 7), .ref (K + 8), .int 0, .int 0])) H := hat_a0.kept (oq _ (by omega))
  have hat_K : va_at D vwCl (K, .inl (cy 3, 16, .inr (.inr (.inr (.inr (va_up (va_up (va_up (va_up (va_up (va_up (va_up (va_up (fun _ => none) (0 : Int32).toNatClampNeg (some (K + 9))) (1 : Int32).toNatClampNeg (some (K + 19))) (2 : Int32).toNatClampNeg (some (K + 29))) (3 : Int32).toNatClampNeg (some (K + 39))) (4 : Int32).toNatClampNeg (some (K + 49))) (5 : Int32).toNatClampNeg (some (K + 59))) (6 : Int32).toNatClampNeg (some (K + 69))) (7 : Int32).toNatClampNeg (some (K + 79)))))))) H := hat_K.kept (oq _ (by omega))
  have hat_K7 : va_at D vwCl ((K + 7), .inl (cy 3, 16, .inr (.inr (.inr (.inr (va_up (va_up (va_up (va_up (va_up (va_up (va_up (va_up (fun _ => none) (0 : Int32).toNatClampNeg (some (K + 14))) (1 : Int32).toNatClampNeg (some (K + 24))) (2 : Int32).toNatClampNeg (some (K + 34))) (3 : Int32).toNatClampNeg (some (K + 44))) (4 : Int32).toNatClampNeg (some (K + 54))) (5 : Int32).toNatClampNeg (some (K + 64))) (6 : Int32).toNatClampNeg (some (K + 74))) (7 : Int32).toNatClampNeg (some (K + 84)))))))) H := hat_n
  have hG : rc_G D cy ld t ((K + 7) :: K :: a0 :: X) (K + 89) H := hG.ajar (by simp) z9 oq
  refine lv_iinc (v := 8) (lv' := [(3, .int 8), (0, .ref a0), (1, .ref a1), (2, .ref a2)]) hx hb dX1_init_93 hl (k := 0) rfl (by decide) (by decide) rfl (fun ls hl => ?_)
  refine lv_goto (tgt := 61) hx hb dX1_init_96 (by decide) ?_
  refine lv_iload_n hx hb dX1_init_61 rfl (lv_at hl 0 rfl) ?_
  refine lv_bipush (v := 16) hx hb dX1_init_62 (by decide) ?_
  refine lv_icmp_ge (tgt := 99) hx hb dX1_init_64 (by decide) (fun c9 => absurd c9 (by decide)) (fun _ => ?_)
  refine lv_aload_n hx hb dX1_init_67 rfl (lv_at hl 1 rfl) ?_
  refine va_get (ci := 1) (C := RX1) (T := TX1) (N := 11) hx hb htl inX1 hown hK.1 (tk_one hat_a0) 0 rfl rfl 3 (by decide) (htl _ mw_109) (fun _ h9 => h9) rfl dX1_init_68 ?_
  refine lv_iload_n hx hb dX1_init_71 rfl (lv_at hl 0 rfl) ?_
  refine rc_new (ci := 9) (fs := [.null, .null, .null, .null, .int 0, .int 0, .int 0, .int 0, .int 0, .int 0, .int 0]) (C := RX9) (T := TX9) (N := 11) hx hb htl inX9 tyX9 tyX9_ok hown (htl _ mw_108) (htl _ mw_75) (htl _ mw_76) hK hG hS rfl dfX9 (Nat.le_of_ble_eq_true rfl) (Nat.le_of_ble_eq_true rfl) dX1_init_72 (fun H hG hat_n oq hS => ?_)
  have hat_a0 : va_at D vwCl (a0, .inr (1, [.int 0, .ref a1, .ref a2, .ref K, .ref (K + 1), .int 0, .ref (K + 2), .ref (K + 7), .ref (K + 8), .int 0, .int 0])) H := hat_a0.kept (oq _ (by omega))
  have hat_K : va_at D vwCl (K, .inl (cy 3, 16, .inr (.inr (.inr (.inr (va_up (va_up (va_up (va_up (va_up (va_up (va_up (va_up (fun _ => none) (0 : Int32).toNatClampNeg (some (K + 9))) (1 : Int32).toNatClampNeg (some (K + 19))) (2 : Int32).toNatClampNeg (some (K + 29))) (3 : Int32).toNatClampNeg (some (K + 39))) (4 : Int32).toNatClampNeg (some (K + 49))) (5 : Int32).toNatClampNeg (some (K + 59))) (6 : Int32).toNatClampNeg (some (K + 69))) (7 : Int32).toNatClampNeg (some (K + 79)))))))) H := hat_K.kept (oq _ (by omega))
  have hat_K7 : va_at D vwCl ((K + 7), .inl (cy 3, 16, .inr (.inr (.inr (.inr (va_up (va_up (va_up (va_up (va_up (va_up (va_up (va_up (fun _ => none) (0 : Int32).toNatClampNeg (some (K + 14))) (1 : Int32).toNatClampNeg (some (K + 24))) (2 : Int32).toNatClampNeg (some (K + 34))) (3 : Int32).toNatClampNeg (some (K + 44))) (4 : Int32).toNatClampNeg (some (K + 54))) (5 : Int32).toNatClampNeg (some (K + 64))) (6 : Int32).toNatClampNeg (some (K + 74))) (7 : Int32).toNatClampNeg (some (K + 84)))))))) H := hat_K7.kept (oq _ (by omega))
  refine W.widen (k := 90) (n := 704) (Nat.le_of_ble_eq_true rfl) (Nat.le_of_ble_eq_true rfl) ?_
  have hG : rc_G D cy ld t ((K + 89) :: (K + 7) :: K :: a0 :: X) (K + 90) H := hG
  have hat_K89 : va_at D vwCl ((K + 89), .inr (9, [.null, .null, .null, .null, .int 0, .int 0, .int 0, .int 0, .int 0, .int 0, .int 0])) H := hat_n
  refine lv_dup hx hb dX1_init_75 rfl ?_
  have hXX := kc_X9 l D cy ld t ((K + 7) :: K :: a0 :: X) (K + 89) (K + 90) 1 ht89 hs90  (fun q hq => rc_nin (by omega) (rc_nin (by omega) (rc_nin (by omega) (hX q (by omega)))))
  refine rc_I (As := []) (rest := [.ref (K + 89), .int 8, .ref K]) (ci := 9) (n1 := (K + 94)) ⟨hx, hb, hml, hown, hts⟩ hK hG hat_K89 hS (fun q h9 => by show _ = _ ∨ _ ≤ _; omega) hXX ⟨callB_of 0 hts (wl_in mw_80) rfl rfl rfl (htl _ mw_76) (htl _ mw_116) hd_yX9_init ⟨(Nat.le_of_ble_eq_true rfl), (Nat.le_of_ble_eq_true rfl)⟩, rfl, htl _ mw_79⟩ rfl hl.1 rfl (Nat.le_of_ble_eq_true rfl) dX1_init_76 ⟨(Nat.le_of_ble_eq_true rfl), (Nat.le_of_ble_eq_true rfl)⟩ (fun H locs hG oq hS => ?_)
  have hat_a0 : va_at D vwCl (a0, .inr (1, [.int 0, .ref a1, .ref a2, .ref K, .ref (K + 1), .int 0, .ref (K + 2), .ref (K + 7), .ref (K + 8), .int 0, .int 0])) H := hat_a0.kept (oq _ (by omega) (by omega))
  have hat_K : va_at D vwCl (K, .inl (cy 3, 16, .inr (.inr (.inr (.inr (va_up (va_up (va_up (va_up (va_up (va_up (va_up (va_up (fun _ => none) (0 : Int32).toNatClampNeg (some (K + 9))) (1 : Int32).toNatClampNeg (some (K + 19))) (2 : Int32).toNatClampNeg (some (K + 29))) (3 : Int32).toNatClampNeg (some (K + 39))) (4 : Int32).toNatClampNeg (some (K + 49))) (5 : Int32).toNatClampNeg (some (K + 59))) (6 : Int32).toNatClampNeg (some (K + 69))) (7 : Int32).toNatClampNeg (some (K + 79)))))))) H := hat_K.kept (oq _ (by omega) (by omega))
  have hat_K7 : va_at D vwCl ((K + 7), .inl (cy 3, 16, .inr (.inr (.inr (.inr (va_up (va_up (va_up (va_up (va_up (va_up (va_up (va_up (fun _ => none) (0 : Int32).toNatClampNeg (some (K + 14))) (1 : Int32).toNatClampNeg (some (K + 24))) (2 : Int32).toNatClampNeg (some (K + 34))) (3 : Int32).toNatClampNeg (some (K + 44))) (4 : Int32).toNatClampNeg (some (K + 54))) (5 : Int32).toNatClampNeg (some (K + 64))) (6 : Int32).toNatClampNeg (some (K + 74))) (7 : Int32).toNatClampNeg (some (K + 84)))))))) H := hat_K7.kept (oq _ (by omega) (by omega))
  refine W.widen (k := 94) (n := 730) (Nat.le_of_ble_eq_true rfl) (Nat.le_of_ble_eq_true rfl) ?_
  have hG : rc_G D cy ld t ((K + 7) :: K :: a0 :: X) (K + 94) H := hG
  obtain ⟨fs9, hv9, -⟩ := hG.obj (ci := 9) ht89 (by decide) (by omega) (rc_nin (by omega) ( rc_nin (by omega) ( rc_nin (by omega) (hX _ (by omega)))))
  refine rc_aast (ci := 9) (r := (RX9, TX9, 11)) hx hb hK 3 hat_K rfl hv9 rfl (fx_in (by decide)) dX1_init_79 (fun H j9 hat_n z9 oq => ?_)
  have hS := hS.put (k := j9) z9 oq (by show _ = _ ∨ _ ≤ _; omega)
  have hat_a0 : va_at D vwCl (a0, .inr (1, [.int 0, .ref a1, .ref a2, .ref K, .ref (K + 1), .int 0, .ref (K + 2), .ref (K + 7), .ref (K + 8), .int 0, .int 0])) H := hat_a0.kept (oq _ (by omega))
  have hat_K7 : va_at D vwCl ((K + 7), .inl (cy 3, 16, .inr (.inr (.inr (.inr (va_up (va_up (va_up (va_up (va_up (va_up (va_up (va_up (fun _ => none) (0 : Int32).toNatClampNeg (some (K + 14))) (1 : Int32).toNatClampNeg (some (K + 24))) (2 : Int32).toNatClampNeg (some (K + 34))) (3 : Int32).toNatClampNeg (some (K + 44))) (4 : Int32).toNatClampNeg (some (K + 54))) (5 : Int32).toNatClampNeg (some (K + 64))) (6 : Int32).toNatClampNeg (some (K + 74))) (7 : Int32).toNatClampNeg (some (K + 84)))))))) H := hat_K7.kept (oq _ (by omega))
  have hat_K : va_at D vwCl (K, .inl (cy 3, 16, .inr (.inr (.inr (.inr (va_up (va_up (va_up (va_up (va_up (va_up (va_up (va_up (va_up (fun _ => none) (0 : Int32).toNatClampNeg (some (K + 9))) (1 : Int32).toNatClampNeg (some (K + 19))) (2 : Int32).toNatClampNeg (some (K + 29))) (3 : Int32).toNatClampNeg (some (K + 39))) (4 : Int32).toNatClampNeg (some (K + 49))) (5 : Int32).toNatClampNeg (some (K + 59))) (6 : Int32).toNatClampNeg (some (K + 69))) (7 : Int32).toNatClampNeg (some (K + 79))) (8 : Int32).toNatClampNeg (some (K + 89)))))))) H := hat_n
  have hG : rc_G D cy ld t ((K + 7) :: K :: a0 :: X) (K + 94) H := hG.ajar (by simp) z9 oq
  refine lv_aload_n hx hb dX1_init_80 rfl (lv_at hl 1 rfl) ?_
  refine va_get (ci := 1) (C := RX1) (T := TX1) (N := 11) hx hb htl inX1 hown hK.1 (tk_one hat_a0) 0 rfl rfl 7 (by decide) (htl _ mw_112) (fun _ h9 => h9) rfl dX1_init_81 ?_
  refine lv_iload_n hx hb dX1_init_84 rfl (lv_at hl 0 rfl) ?_
  refine rc_new (ci := 9) (fs := [.null, .null, .null, .null, .int 0, .int 0, .int 0, .int 0, .int 0, .int 0, .int 0]) (C := RX9) (T := TX9) (N := 11) hx hb htl inX9 tyX9 tyX9_ok hown (htl _ mw_108) (htl _ mw_75) (htl _ mw_76) hK hG hS rfl dfX9 (Nat.le_of_ble_eq_true rfl) (Nat.le_of_ble_eq_true rfl) dX1_init_85 (fun H hG hat_n oq hS => ?_)
  have hat_a0 : va_at D vwCl (a0, .inr (1, [.int 0, .ref a1, .ref a2, .ref K, .ref (K + 1), .int 0, .ref (K + 2), .ref (K + 7), .ref (K + 8), .int 0, .int 0])) H := hat_a0.kept (oq _ (by omega))
  have hat_K : va_at D vwCl (K, .inl (cy 3, 16, .inr (.inr (.inr (.inr (va_up (va_up (va_up (va_up (va_up (va_up (va_up (va_up (va_up (fun _ => none) (0 : Int32).toNatClampNeg (some (K + 9))) (1 : Int32).toNatClampNeg (some (K + 19))) (2 : Int32).toNatClampNeg (some (K + 29))) (3 : Int32).toNatClampNeg (some (K + 39))) (4 : Int32).toNatClampNeg (some (K + 49))) (5 : Int32).toNatClampNeg (some (K + 59))) (6 : Int32).toNatClampNeg (some (K + 69))) (7 : Int32).toNatClampNeg (some (K + 79))) (8 : Int32).toNatClampNeg (some (K + 89)))))))) H := hat_K.kept (oq _ (by omega))
  have hat_K7 : va_at D vwCl ((K + 7), .inl (cy 3, 16, .inr (.inr (.inr (.inr (va_up (va_up (va_up (va_up (va_up (va_up (va_up (va_up (fun _ => none) (0 : Int32).toNatClampNeg (some (K + 14))) (1 : Int32).toNatClampNeg (some (K + 24))) (2 : Int32).toNatClampNeg (some (K + 34))) (3 : Int32).toNatClampNeg (some (K + 44))) (4 : Int32).toNatClampNeg (some (K + 54))) (5 : Int32).toNatClampNeg (some (K + 64))) (6 : Int32).toNatClampNeg (some (K + 74))) (7 : Int32).toNatClampNeg (some (K + 84)))))))) H := hat_K7.kept (oq _ (by omega))
  refine W.widen (k := 95) (n := 741) (Nat.le_of_ble_eq_true rfl) (Nat.le_of_ble_eq_true rfl) ?_
  have hG : rc_G D cy ld t ((K + 94) :: (K + 7) :: K :: a0 :: X) (K + 95) H := hG
  have hat_K94 : va_at D vwCl ((K + 94), .inr (9, [.null, .null, .null, .null, .int 0, .int 0, .int 0, .int 0, .int 0, .int 0, .int 0])) H := hat_n
  refine lv_dup hx hb dX1_init_88 rfl ?_
  have hXX := kc_X9 l D cy ld t ((K + 7) :: K :: a0 :: X) (K + 94) (K + 95) 3 ht94 hs95  (fun q hq => rc_nin (by omega) (rc_nin (by omega) (rc_nin (by omega) (hX q (by omega)))))
  refine rc_I (As := []) (rest := [.ref (K + 94), .int 8, .ref (K + 7)]) (ci := 9) (n1 := (K + 99)) ⟨hx, hb, hml, hown, hts⟩ hK hG hat_K94 hS (fun q h9 => by show _ = _ ∨ _ ≤ _; omega) hXX ⟨callB_of 0 hts (wl_in mw_80) rfl rfl rfl (htl _ mw_76) (htl _ mw_116) hd_yX9_init ⟨(Nat.le_of_ble_eq_true rfl), (Nat.le_of_ble_eq_true rfl)⟩, rfl, htl _ mw_79⟩ rfl hl.1 rfl (Nat.le_of_ble_eq_true rfl) dX1_init_89 ⟨(Nat.le_of_ble_eq_true rfl), (Nat.le_of_ble_eq_true rfl)⟩ (fun H locs hG oq hS => ?_)
  have hat_a0 : va_at D vwCl (a0, .inr (1, [.int 0, .ref a1, .ref a2, .ref K, .ref (K + 1), .int 0, .ref (K + 2), .ref (K + 7), .ref (K + 8), .int 0, .int 0])) H := hat_a0.kept (oq _ (by omega) (by omega))
  have hat_K : va_at D vwCl (K, .inl (cy 3, 16, .inr (.inr (.inr (.inr (va_up (va_up (va_up (va_up (va_up (va_up (va_up (va_up (va_up (fun _ => none) (0 : Int32).toNatClampNeg (some (K + 9))) (1 : Int32).toNatClampNeg (some (K + 19))) (2 : Int32).toNatClampNeg (some (K + 29))) (3 : Int32).toNatClampNeg (some (K + 39))) (4 : Int32).toNatClampNeg (some (K + 49))) (5 : Int32).toNatClampNeg (some (K + 59))) (6 : Int32).toNatClampNeg (some (K + 69))) (7 : Int32).toNatClampNeg (some (K + 79))) (8 : Int32).toNatClampNeg (some (K + 89)))))))) H := hat_K.kept (oq _ (by omega) (by omega))
  have hat_K7 : va_at D vwCl ((K + 7), .inl (cy 3, 16, .inr (.inr (.inr (.inr (va_up (va_up (va_up (va_up (va_up (va_up (va_up (va_up (fun _ => none) (0 : Int32).toNatClampNeg (some (K + 14))) (1 : Int32).toNatClampNeg (some (K + 24))) (2 : Int32).toNatClampNeg (some (K + 34))) (3 : Int32).toNatClampNeg (some (K + 44))) (4 : Int32).toNatClampNeg (some (K + 54))) (5 : Int32).toNatClampNeg (some (K + 64))) (6 : Int32).toNatClampNeg (some (K + 74))) (7 : Int32).toNatClampNeg (some (K + 84)))))))) H := hat_K7.kept (oq _ (by omega) (by omega))
  refine W.widen (k := 99) (n := 767) (Nat.le_of_ble_eq_true rfl) (Nat.le_of_ble_eq_true rfl) ?_
  have hG : rc_G D cy ld t ((K + 7) :: K :: a0 :: X) (K + 99) H := hG
  obtain ⟨fs9, hv9, -⟩ := hG.obj (ci := 9) ht94 (by decide) (by omega) (rc_nin (by omega) ( rc_nin (by omega) ( rc_nin (by omega) (hX _ (by omega)))))
  refine rc_aast (ci := 9) (r := (RX9, TX9, 11)) hx hb hK 3 hat_K7 rfl hv9 rfl (fx_in (by decide)) dX1_init_92 (fun H j9 hat_n z9 oq => ?_)
  have hS := hS.put (k := j9) z9 oq (by show _ = _ ∨ _ ≤ _; omega)
  have hat_a0 : va_at D vwCl (a0, .inr (1, [.int 0, .ref a1, .ref a2, .ref K, .ref (K + 1), .int 0, .ref (K + 2), .ref (K + 7), .ref (K + 8), .int 0, .int 0])) H := hat_a0.kept (oq _ (by omega))
  have hat_K : va_at D vwCl (K, .inl (cy 3, 16, .inr (.inr (.inr (.inr (va_up (va_up (va_up (va_up (va_up (va_up (va_up (va_up (va_up (fun _ => none) (0 : Int32).toNatClampNeg (some (K + 9))) (1 : Int32).toNatClampNeg (some (K + 19))) (2 : Int32).toNatClampNeg (some (K + 29))) (3 : Int32).toNatClampNeg (some (K + 39))) (4 : Int32).toNatClampNeg (some (K + 49))) (5 : Int32).toNatClampNeg (some (K + 59))) (6 : Int32).toNatClampNeg (some (K + 69))) (7 : Int32).toNatClampNeg (some (K + 79))) (8 : Int32).toNatClampNeg (some (K + 89)))))))) H := hat_K.kept (oq _ (by omega))
  have hat_K7 : va_at D vwCl ((K + 7), .inl (cy 3, 16, .inr (.inr (.inr (.inr (va_up (va_up (va_up (va_up (va_up (va_up (va_up (va_up (va_up (fun _ => none) (0 : Int32).toNatClampNeg (some (K + 14))) (1 : Int32).toNatClampNeg (some (K + 24))) (2 : Int32).toNatClampNeg (some (K + 34))) (3 : Int32).toNatClampNeg (some (K + 44))) (4 : Int32).toNatClampNeg (some (K + 54))) (5 : Int32).toNatClampNeg (some (K + 64))) (6 : Int32).toNatClampNeg (some (K + 74))) (7 : Int32).toNatClampNeg (some (K + 84))) (8 : Int32).toNatClampNeg (some (K + 94)))))))) H := hat_n
  have hG : rc_G D cy ld t ((K + 7) :: K :: a0 :: X) (K + 99) H := hG.ajar (by simp) z9 oq
  refine lv_iinc (v := 9) (lv' := [(3, .int 9), (0, .ref a0), (1, .ref a1), (2, .ref a2)]) hx hb dX1_init_93 hl (k := 0) rfl (by decide) (by decide) rfl (fun ls hl => ?_)
  refine lv_goto (tgt := 61) hx hb dX1_init_96 (by decide) ?_
  refine lv_iload_n hx hb dX1_init_61 rfl (lv_at hl 0 rfl) ?_
  refine lv_bipush (v := 16) hx hb dX1_init_62 (by decide) ?_
  refine lv_icmp_ge (tgt := 99) hx hb dX1_init_64 (by decide) (fun c9 => absurd c9 (by decide)) (fun _ => ?_)
  refine lv_aload_n hx hb dX1_init_67 rfl (lv_at hl 1 rfl) ?_
  refine va_get (ci := 1) (C := RX1) (T := TX1) (N := 11) hx hb htl inX1 hown hK.1 (tk_one hat_a0) 0 rfl rfl 3 (by decide) (htl _ mw_109) (fun _ h9 => h9) rfl dX1_init_68 ?_
  refine lv_iload_n hx hb dX1_init_71 rfl (lv_at hl 0 rfl) ?_
  refine rc_new (ci := 9) (fs := [.null, .null, .null, .null, .int 0, .int 0, .int 0, .int 0, .int 0, .int 0, .int 0]) (C := RX9) (T := TX9) (N := 11) hx hb htl inX9 tyX9 tyX9_ok hown (htl _ mw_108) (htl _ mw_75) (htl _ mw_76) hK hG hS rfl dfX9 (Nat.le_of_ble_eq_true rfl) (Nat.le_of_ble_eq_true rfl) dX1_init_72 (fun H hG hat_n oq hS => ?_)
  have hat_a0 : va_at D vwCl (a0, .inr (1, [.int 0, .ref a1, .ref a2, .ref K, .ref (K + 1), .int 0, .ref (K + 2), .ref (K + 7), .ref (K + 8), .int 0, .int 0])) H := hat_a0.kept (oq _ (by omega))
  have hat_K : va_at D vwCl (K, .inl (cy 3, 16, .inr (.inr (.inr (.inr (va_up (va_up (va_up (va_up (va_up (va_up (va_up (va_up (va_up (fun _ => none) (0 : Int32).toNatClampNeg (some (K + 9))) (1 : Int32).toNatClampNeg (some (K + 19))) (2 : Int32).toNatClampNeg (some (K + 29))) (3 : Int32).toNatClampNeg (some (K + 39))) (4 : Int32).toNatClampNeg (some (K + 49))) (5 : Int32).toNatClampNeg (some (K + 59))) (6 : Int32).toNatClampNeg (some (K + 69))) (7 : Int32).toNatClampNeg (some (K + 79))) (8 : Int32).toNatClampNeg (some (K + 89)))))))) H := hat_K.kept (oq _ (by omega))
  have hat_K7 : va_at D vwCl ((K + 7), .inl (cy 3, 16, .inr (.inr (.inr (.inr (va_up (va_up (va_up (va_up (va_up (va_up (va_up (va_up (va_up (fun _ => none) (0 : Int32).toNatClampNeg (some (K + 14))) (1 : Int32).toNatClampNeg (some (K + 24))) (2 : Int32).toNatClampNeg (some (K + 34))) (3 : Int32).toNatClampNeg (some (K + 44))) (4 : Int32).toNatClampNeg (some (K + 54))) (5 : Int32).toNatClampNeg (some (K + 64))) (6 : Int32).toNatClampNeg (some (K + 74))) (7 : Int32).toNatClampNeg (some (K + 84))) (8 : Int32).toNatClampNeg (some (K + 94)))))))) H := hat_K7.kept (oq _ (by omega))
  refine W.widen (k := 100) (n := 778) (Nat.le_of_ble_eq_true rfl) (Nat.le_of_ble_eq_true rfl) ?_
  have hG : rc_G D cy ld t ((K + 99) :: (K + 7) :: K :: a0 :: X) (K + 100) H := hG
  have hat_K99 : va_at D vwCl ((K + 99), .inr (9, [.null, .null, .null, .null, .int 0, .int 0, .int 0, .int 0, .int 0, .int 0, .int 0])) H := hat_n
  refine lv_dup hx hb dX1_init_75 rfl ?_
  have hXX := kc_X9 l D cy ld t ((K + 7) :: K :: a0 :: X) (K + 99) (K + 100) 1 ht99 hs100  (fun q hq => rc_nin (by omega) (rc_nin (by omega) (rc_nin (by omega) (hX q (by omega)))))
  refine rc_I (As := []) (rest := [.ref (K + 99), .int 9, .ref K]) (ci := 9) (n1 := (K + 104)) ⟨hx, hb, hml, hown, hts⟩ hK hG hat_K99 hS (fun q h9 => by show _ = _ ∨ _ ≤ _; omega) hXX ⟨callB_of 0 hts (wl_in mw_80) rfl rfl rfl (htl _ mw_76) (htl _ mw_116) hd_yX9_init ⟨(Nat.le_of_ble_eq_true rfl), (Nat.le_of_ble_eq_true rfl)⟩, rfl, htl _ mw_79⟩ rfl hl.1 rfl (Nat.le_of_ble_eq_true rfl) dX1_init_76 ⟨(Nat.le_of_ble_eq_true rfl), (Nat.le_of_ble_eq_true rfl)⟩ (fun H locs hG oq hS => ?_)
  have hat_a0 : va_at D vwCl (a0, .inr (1, [.int 0, .ref a1, .ref a2, .ref K, .ref (K + 1), .int 0, .ref (K + 2), .ref (K + 7), .ref (K + 8), .int 0, .int 0])) H := hat_a0.kept (oq _ (by omega) (by omega))
  have hat_K : va_at D vwCl (K, .inl (cy 3, 16, .inr (.inr (.inr (.inr (va_up (va_up (va_up (va_up (va_up (va_up (va_up (va_up (va_up (fun _ => none) (0 : Int32).toNatClampNeg (some (K + 9))) (1 : Int32).toNatClampNeg (some (K + 19))) (2 : Int32).toNatClampNeg (some (K + 29))) (3 : Int32).toNatClampNeg (some (K + 39))) (4 : Int32).toNatClampNeg (some (K + 49))) (5 : Int32).toNatClampNeg (some (K + 59))) (6 : Int32).toNatClampNeg (some (K + 69))) (7 : Int32).toNatClampNeg (some (K + 79))) (8 : Int32).toNatClampNeg (some (K + 89)))))))) H := hat_K.kept (oq _ (by omega) (by omega))
  have hat_K7 : va_at D vwCl ((K + 7), .inl (cy 3, 16, .inr (.inr (.inr (.inr (va_up (va_up (va_up (va_up (va_up (va_up (va_up (va_up (va_up (fun _ => none) (0 : Int32).toNatClampNeg (some (K + 14))) (1 : Int32).toNatClampNeg (some (K + 24))) (2 : Int32).toNatClampNeg (some (K + 34))) (3 : Int32).toNatClampNeg (some (K + 44))) (4 : Int32).toNatClampNeg (some (K + 54))) (5 : Int32).toNatClampNeg (some (K + 64))) (6 : Int32).toNatClampNeg (some (K + 74))) (7 : Int32).toNatClampNeg (some (K + 84))) (8 : Int32).toNatClampNeg (some (K + 94)))))))) H := hat_K7.kept (oq _ (by omega) (by omega))
  refine W.widen (k := 104) (n := 804) (Nat.le_of_ble_eq_true rfl) (Nat.le_of_ble_eq_true rfl) ?_
  have hG : rc_G D cy ld t ((K + 7) :: K :: a0 :: X) (K + 104) H := hG
  obtain ⟨fs9, hv9, -⟩ := hG.obj (ci := 9) ht99 (by decide) (by omega) (rc_nin (by omega) ( rc_nin (by omega) ( rc_nin (by omega) (hX _ (by omega)))))
  refine rc_aast (ci := 9) (r := (RX9, TX9, 11)) hx hb hK 3 hat_K rfl hv9 rfl (fx_in (by decide)) dX1_init_79 (fun H j9 hat_n z9 oq => ?_)
  have hS := hS.put (k := j9) z9 oq (by show _ = _ ∨ _ ≤ _; omega)
  have hat_a0 : va_at D vwCl (a0, .inr (1, [.int 0, .ref a1, .ref a2, .ref K, .ref (K + 1), .int 0, .ref (K + 2), .ref (K + 7), .ref (K + 8), .int 0, .int 0])) H := hat_a0.kept (oq _ (by omega))
  have hat_K7 : va_at D vwCl ((K + 7), .inl (cy 3, 16, .inr (.inr (.inr (.inr (va_up (va_up (va_up (va_up (va_up (va_up (va_up (va_up (va_up (fun _ => none) (0 : Int32).toNatClampNeg (some (K + 14))) (1 : Int32).toNatClampNeg (some (K + 24))) (2 : Int32).toNatClampNeg (some (K + 34))) (3 : Int32).toNatClampNeg (some (K + 44))) (4 : Int32).toNatClampNeg (some (K + 54))) (5 : Int32).toNatClampNeg (some (K + 64))) (6 : Int32).toNatClampNeg (some (K + 74))) (7 : Int32).toNatClampNeg (some (K + 84))) (8 : Int32).toNatClampNeg (some (K + 94)))))))) H := hat_K7.kept (oq _ (by omega))
  have hat_K : va_at D vwCl (K, .inl (cy 3, 16, .inr (.inr (.inr (.inr (va_up (va_up (va_up (va_up (va_up (va_up (va_up (va_up (va_up (va_up (fun _ => none) (0 : Int32).toNatClampNeg (some (K + 9))) (1 : Int32).toNatClampNeg (some (K + 19))) (2 : Int32).toNatClampNeg (some (K + 29))) (3 : Int32).toNatClampNeg (some (K + 39))) (4 : Int32).toNatClampNeg (some (K + 49))) (5 : Int32).toNatClampNeg (some (K + 59))) (6 : Int32).toNatClampNeg (some (K + 69))) (7 : Int32).toNatClampNeg (some (K + 79))) (8 : Int32).toNatClampNeg (some (K + 89))) (9 : Int32).toNatClampNeg (some (K + 99)))))))) H := hat_n
  have hG : rc_G D cy ld t ((K + 7) :: K :: a0 :: X) (K + 104) H := hG.ajar (by simp) z9 oq
  refine lv_aload_n hx hb dX1_init_80 rfl (lv_at hl 1 rfl) ?_
  refine va_get (ci := 1) (C := RX1) (T := TX1) (N := 11) hx hb htl inX1 hown hK.1 (tk_one hat_a0) 0 rfl rfl 7 (by decide) (htl _ mw_112) (fun _ h9 => h9) rfl dX1_init_81 ?_
  refine lv_iload_n hx hb dX1_init_84 rfl (lv_at hl 0 rfl) ?_
  refine rc_new (ci := 9) (fs := [.null, .null, .null, .null, .int 0, .int 0, .int 0, .int 0, .int 0, .int 0, .int 0]) (C := RX9) (T := TX9) (N := 11) hx hb htl inX9 tyX9 tyX9_ok hown (htl _ mw_108) (htl _ mw_75) (htl _ mw_76) hK hG hS rfl dfX9 (Nat.le_of_ble_eq_true rfl) (Nat.le_of_ble_eq_true rfl) dX1_init_85 (fun H hG hat_n oq hS => ?_)
  have hat_a0 : va_at D vwCl (a0, .inr (1, [.int 0, .ref a1, .ref a2, .ref K, .ref (K + 1), .int 0, .ref (K + 2), .ref (K + 7), .ref (K + 8), .int 0, .int 0])) H := hat_a0.kept (oq _ (by omega))
  have hat_K : va_at D vwCl (K, .inl (cy 3, 16, .inr (.inr (.inr (.inr (va_up (va_up (va_up (va_up (va_up (va_up (va_up (va_up (va_up (va_up (fun _ => none) (0 : Int32).toNatClampNeg (some (K + 9))) (1 : Int32).toNatClampNeg (some (K + 19))) (2 : Int32).toNatClampNeg (some (K + 29))) (3 : Int32).toNatClampNeg (some (K + 39))) (4 : Int32).toNatClampNeg (some (K + 49))) (5 : Int32).toNatClampNeg (some (K + 59))) (6 : Int32).toNatClampNeg (some (K + 69))) (7 : Int32).toNatClampNeg (some (K + 79))) (8 : Int32).toNatClampNeg (some (K + 89))) (9 : Int32).toNatClampNeg (some (K + 99)))))))) H := hat_K.kept (oq _ (by omega))
  have hat_K7 : va_at D vwCl ((K + 7), .inl (cy 3, 16, .inr (.inr (.inr (.inr (va_up (va_up (va_up (va_up (va_up (va_up (va_up (va_up (va_up (fun _ => none) (0 : Int32).toNatClampNeg (some (K + 14))) (1 : Int32).toNatClampNeg (some (K + 24))) (2 : Int32).toNatClampNeg (some (K + 34))) (3 : Int32).toNatClampNeg (some (K + 44))) (4 : Int32).toNatClampNeg (some (K + 54))) (5 : Int32).toNatClampNeg (some (K + 64))) (6 : Int32).toNatClampNeg (some (K + 74))) (7 : Int32).toNatClampNeg (some (K + 84))) (8 : Int32).toNatClampNeg (some (K + 94)))))))) H := hat_K7.kept (oq _ (by omega))
  refine W.widen (k := 105) (n := 815) (Nat.le_of_ble_eq_true rfl) (Nat.le_of_ble_eq_true rfl) ?_
  have hG : rc_G D cy ld t ((K + 104) :: (K + 7) :: K :: a0 :: X) (K + 105) H := hG
  have hat_K104 : va_at D vwCl ((K + 104), .inr (9, [.null, .null, .null, .null, .int 0, .int 0, .int 0, .int 0, .int 0, .int 0, .int 0])) H := hat_n
  refine lv_dup hx hb dX1_init_88 rfl ?_
  have hXX := kc_X9 l D cy ld t ((K + 7) :: K :: a0 :: X) (K + 104) (K + 105) 3 ht104 hs105  (fun q hq => rc_nin (by omega) (rc_nin (by omega) (rc_nin (by omega) (hX q (by omega)))))
  refine rc_I (As := []) (rest := [.ref (K + 104), .int 9, .ref (K + 7)]) (ci := 9) (n1 := (K + 109)) ⟨hx, hb, hml, hown, hts⟩ hK hG hat_K104 hS (fun q h9 => by show _ = _ ∨ _ ≤ _; omega) hXX ⟨callB_of 0 hts (wl_in mw_80) rfl rfl rfl (htl _ mw_76) (htl _ mw_116) hd_yX9_init ⟨(Nat.le_of_ble_eq_true rfl), (Nat.le_of_ble_eq_true rfl)⟩, rfl, htl _ mw_79⟩ rfl hl.1 rfl (Nat.le_of_ble_eq_true rfl) dX1_init_89 ⟨(Nat.le_of_ble_eq_true rfl), (Nat.le_of_ble_eq_true rfl)⟩ (fun H locs hG oq hS => ?_)
  have hat_a0 : va_at D vwCl (a0, .inr (1, [.int 0, .ref a1, .ref a2, .ref K, .ref (K + 1), .int 0, .ref (K + 2), .ref (K + 7), .ref (K + 8), .int 0, .int 0])) H := hat_a0.kept (oq _ (by omega) (by omega))
  have hat_K : va_at D vwCl (K, .inl (cy 3, 16, .inr (.inr (.inr (.inr (va_up (va_up (va_up (va_up (va_up (va_up (va_up (va_up (va_up (va_up (fun _ => none) (0 : Int32).toNatClampNeg (some (K + 9))) (1 : Int32).toNatClampNeg (some (K + 19))) (2 : Int32).toNatClampNeg (some (K + 29))) (3 : Int32).toNatClampNeg (some (K + 39))) (4 : Int32).toNatClampNeg (some (K + 49))) (5 : Int32).toNatClampNeg (some (K + 59))) (6 : Int32).toNatClampNeg (some (K + 69))) (7 : Int32).toNatClampNeg (some (K + 79))) (8 : Int32).toNatClampNeg (some (K + 89))) (9 : Int32).toNatClampNeg (some (K + 99)))))))) H := hat_K.kept (oq _ (by omega) (by omega))
  have hat_K7 : va_at D vwCl ((K + 7), .inl (cy 3, 16, .inr (.inr (.inr (.inr (va_up (va_up (va_up (va_up (va_up (va_up (va_up (va_up (va_up (fun _ => none) (0 : Int32).toNatClampNeg (some (K + 14))) (1 : Int32).toNatClampNeg (some (K + 24))) (2 : Int32).toNatClampNeg (some (K + 34))) (3 : Int32).toNatClampNeg (some (K + 44))) (4 : Int32).toNatClampNeg (some (K + 54))) (5 : Int32).toNatClampNeg (some (K + 64))) (6 : Int32).toNatClampNeg (some (K + 74))) (7 : Int32).toNatClampNeg (some (K + 84))) (8 : Int32).toNatClampNeg (some (K + 94)))))))) H := hat_K7.kept (oq _ (by omega) (by omega))
  refine W.widen (k := 109) (n := 841) (Nat.le_of_ble_eq_true rfl) (Nat.le_of_ble_eq_true rfl) ?_
  have hG : rc_G D cy ld t ((K + 7) :: K :: a0 :: X) (K + 109) H := hG
  obtain ⟨fs9, hv9, -⟩ := hG.obj (ci := 9) ht104 (by decide) (by omega) (rc_nin (by omega) ( rc_nin (by omega) ( rc_nin (by omega) (hX _ (by omega)))))
  refine rc_aast (ci := 9) (r := (RX9, TX9, 11)) hx hb hK 3 hat_K7 rfl hv9 rfl (fx_in (by decide)) dX1_init_92 (fun H j9 hat_n z9 oq => ?_)
  have hS := hS.put (k := j9) z9 oq (by show _ = _ ∨ _ ≤ _; omega)
  have hat_a0 : va_at D vwCl (a0, .inr (1, [.int 0, .ref a1, .ref a2, .ref K, .ref (K + 1), .int 0, .ref (K + 2), .ref (K + 7), .ref (K + 8), .int 0, .int 0])) H := hat_a0.kept (oq _ (by omega))
  have hat_K : va_at D vwCl (K, .inl (cy 3, 16, .inr (.inr (.inr (.inr (va_up (va_up (va_up (va_up (va_up (va_up (va_up (va_up (va_up (va_up (fun _ => none) (0 : Int32).toNatClampNeg (some (K + 9))) (1 : Int32).toNatClampNeg (some (K + 19))) (2 : Int32).toNatClampNeg (some (K + 29))) (3 : Int32).toNatClampNeg (some (K + 39))) (4 : Int32).toNatClampNeg (some (K + 49))) (5 : Int32).toNatClampNeg (some (K + 59))) (6 : Int32).toNatClampNeg (some (K + 69))) (7 : Int32).toNatClampNeg (some (K + 79))) (8 : Int32).toNatClampNeg (some (K + 89))) (9 : Int32).toNatClampNeg (some (K + 99)))))))) H := hat_K.kept (oq _ (by omega))
  have hat_K7 : va_at D vwCl ((K + 7), .inl (cy 3, 16, .inr (.inr (.inr (.inr (va_up (va_up (va_up (va_up (va_up (va_up (va_up (va_up (va_up (va_up (fun _ => none) (0 : Int32).toNatClampNeg (some (K + 14))) (1 : Int32).toNatClampNeg (some (K + 24))) (2 : Int32).toNatClampNeg (some (K + 34))) (3 : Int32).toNatClampNeg (some (K + 44))) (4 : Int32).toNatClampNeg (some (K + 54))) (5 : Int32).toNatClampNeg (some (K + 64))) (6 : Int32).toNatClampNeg (some (K + 74))) (7 : Int32).toNatClampNeg (some (K + 84))) (8 : Int32).toNatClampNeg (some (K + 94))) (9 : Int32).toNatClampNeg (some (K + 104)))))))) H := hat_n
  have hG : rc_G D cy ld t ((K + 7) :: K :: a0 :: X) (K + 109) H := hG.ajar (by simp) z9 oq
  refine lv_iinc (v := 10) (lv' := [(3, .int 10), (0, .ref a0), (1, .ref a1), (2, .ref a2)]) hx hb dX1_init_93 hl (k := 0) rfl (by decide) (by decide) rfl (fun ls hl => ?_)
  refine lv_goto (tgt := 61) hx hb dX1_init_96 (by decide) ?_
  refine lv_iload_n hx hb dX1_init_61 rfl (lv_at hl 0 rfl) ?_
  refine lv_bipush (v := 16) hx hb dX1_init_62 (by decide) ?_
  refine lv_icmp_ge (tgt := 99) hx hb dX1_init_64 (by decide) (fun c9 => absurd c9 (by decide)) (fun _ => ?_)
  refine lv_aload_n hx hb dX1_init_67 rfl (lv_at hl 1 rfl) ?_
  refine va_get (ci := 1) (C := RX1) (T := TX1) (N := 11) hx hb htl inX1 hown hK.1 (tk_one hat_a0) 0 rfl rfl 3 (by decide) (htl _ mw_109) (fun _ h9 => h9) rfl dX1_init_68 ?_
  refine lv_iload_n hx hb dX1_init_71 rfl (lv_at hl 0 rfl) ?_
  refine rc_new (ci := 9) (fs := [.null, .null, .null, .null, .int 0, .int 0, .int 0, .int 0, .int 0, .int 0, .int 0]) (C := RX9) (T := TX9) (N := 11) hx hb htl inX9 tyX9 tyX9_ok hown (htl _ mw_108) (htl _ mw_75) (htl _ mw_76) hK hG hS rfl dfX9 (Nat.le_of_ble_eq_true rfl) (Nat.le_of_ble_eq_true rfl) dX1_init_72 (fun H hG hat_n oq hS => ?_)
  have hat_a0 : va_at D vwCl (a0, .inr (1, [.int 0, .ref a1, .ref a2, .ref K, .ref (K + 1), .int 0, .ref (K + 2), .ref (K + 7), .ref (K + 8), .int 0, .int 0])) H := hat_a0.kept (oq _ (by omega))
  have hat_K : va_at D vwCl (K, .inl (cy 3, 16, .inr (.inr (.inr (.inr (va_up (va_up (va_up (va_up (va_up (va_up (va_up (va_up (va_up (va_up (fun _ => none) (0 : Int32).toNatClampNeg (some (K + 9))) (1 : Int32).toNatClampNeg (some (K + 19))) (2 : Int32).toNatClampNeg (some (K + 29))) (3 : Int32).toNatClampNeg (some (K + 39))) (4 : Int32).toNatClampNeg (some (K + 49))) (5 : Int32).toNatClampNeg (some (K + 59))) (6 : Int32).toNatClampNeg (some (K + 69))) (7 : Int32).toNatClampNeg (some (K + 79))) (8 : Int32).toNatClampNeg (some (K + 89))) (9 : Int32).toNatClampNeg (some (K + 99)))))))) H := hat_K.kept (oq _ (by omega))
  have hat_K7 : va_at D vwCl ((K + 7), .inl (cy 3, 16, .inr (.inr (.inr (.inr (va_up (va_up (va_up (va_up (va_up (va_up (va_up (va_up (va_up (va_up (fun _ => none) (0 : Int32).toNatClampNeg (some (K + 14))) (1 : Int32).toNatClampNeg (some (K + 24))) (2 : Int32).toNatClampNeg (some (K + 34))) (3 : Int32).toNatClampNeg (some (K + 44))) (4 : Int32).toNatClampNeg (some (K + 54))) (5 : Int32).toNatClampNeg (some (K + 64))) (6 : Int32).toNatClampNeg (some (K + 74))) (7 : Int32).toNatClampNeg (some (K + 84))) (8 : Int32).toNatClampNeg (some (K + 94))) (9 : Int32).toNatClampNeg (some (K + 104)))))))) H := hat_K7.kept (oq _ (by omega))
  refine W.widen (k := 110) (n := 852) (Nat.le_of_ble_eq_true rfl) (Nat.le_of_ble_eq_true rfl) ?_
  have hG : rc_G D cy ld t ((K + 109) :: (K + 7) :: K :: a0 :: X) (K + 110) H := hG
  have hat_K109 : va_at D vwCl ((K + 109), .inr (9, [.null, .null, .null, .null, .int 0, .int 0, .int 0, .int 0, .int 0, .int 0, .int 0])) H := hat_n
  refine lv_dup hx hb dX1_init_75 rfl ?_
  have hXX := kc_X9 l D cy ld t ((K + 7) :: K :: a0 :: X) (K + 109) (K + 110) 1 ht109 hs110  (fun q hq => rc_nin (by omega) (rc_nin (by omega) (rc_nin (by omega) (hX q (by omega)))))
  refine rc_I (As := []) (rest := [.ref (K + 109), .int 10, .ref K]) (ci := 9) (n1 := (K + 114)) ⟨hx, hb, hml, hown, hts⟩ hK hG hat_K109 hS (fun q h9 => by show _ = _ ∨ _ ≤ _; omega) hXX ⟨callB_of 0 hts (wl_in mw_80) rfl rfl rfl (htl _ mw_76) (htl _ mw_116) hd_yX9_init ⟨(Nat.le_of_ble_eq_true rfl), (Nat.le_of_ble_eq_true rfl)⟩, rfl, htl _ mw_79⟩ rfl hl.1 rfl (Nat.le_of_ble_eq_true rfl) dX1_init_76 ⟨(Nat.le_of_ble_eq_true rfl), (Nat.le_of_ble_eq_true rfl)⟩ (fun H locs hG oq hS => ?_)
  have hat_a0 : va_at D vwCl (a0, .inr (1, [.int 0, .ref a1, .ref a2, .ref K, .ref (K + 1), .int 0, .ref (K + 2), .ref (K + 7), .ref (K + 8), .int 0, .int 0])) H := hat_a0.kept (oq _ (by omega) (by omega))
  have hat_K : va_at D vwCl (K, .inl (cy 3, 16, .inr (.inr (.inr (.inr (va_up (va_up (va_up (va_up (va_up (va_up (va_up (va_up (va_up (va_up (fun _ => none) (0 : Int32).toNatClampNeg (some (K + 9))) (1 : Int32).toNatClampNeg (some (K + 19))) (2 : Int32).toNatClampNeg (some (K + 29))) (3 : Int32).toNatClampNeg (some (K + 39))) (4 : Int32).toNatClampNeg (some (K + 49))) (5 : Int32).toNatClampNeg (some (K + 59))) (6 : Int32).toNatClampNeg (some (K + 69))) (7 : Int32).toNatClampNeg (some (K + 79))) (8 : Int32).toNatClampNeg (some (K + 89))) (9 : Int32).toNatClampNeg (some (K + 99)))))))) H := hat_K.kept (oq _ (by omega) (by omega))
  have hat_K7 : va_at D vwCl ((K + 7), .inl (cy 3, 16, .inr (.inr (.inr (.inr (va_up (va_up (va_up (va_up (va_up (va_up (va_up (va_up (va_up (va_up (fun _ => none) (0 : Int32).toNatClampNeg (some (K + 14))) (1 : Int32).toNatClampNeg (some (K + 24))) (2 : Int32).toNatClampNeg (some (K + 34))) (3 : Int32).toNatClampNeg (some (K + 44))) (4 : Int32).toNatClampNeg (some (K + 54))) (5 : Int32).toNatClampNeg (some (K + 64))) (6 : Int32).toNatClampNeg (some (K + 74))) (7 : Int32).toNatClampNeg (some (K + 84))) (8 : Int32).toNatClampNeg (some (K + 94))) (9 : Int32).toNatClampNeg (some (K + 104)))))))) H := hat_K7.kept (oq _ (by omega) (by omega))
  refine W.widen (k := 114) (n := 878) (Nat.le_of_ble_eq_true rfl) (Nat.le_of_ble_eq_true rfl) ?_
  have hG : rc_G D cy ld t ((K + 7) :: K :: a0 :: X) (K + 114) H := hG
  obtain ⟨fs9, hv9, -⟩ := hG.obj (ci := 9) ht109 (by decide) (by omega) (rc_nin (by omega) ( rc_nin (by omega) ( rc_nin (by omega) (hX _ (by omega)))))
  refine rc_aast (ci := 9) (r := (RX9, TX9, 11)) hx hb hK 3 hat_K rfl hv9 rfl (fx_in (by decide)) dX1_init_79 (fun H j9 hat_n z9 oq => ?_)
  have hS := hS.put (k := j9) z9 oq (by show _ = _ ∨ _ ≤ _; omega)
  have hat_a0 : va_at D vwCl (a0, .inr (1, [.int 0, .ref a1, .ref a2, .ref K, .ref (K + 1), .int 0, .ref (K + 2), .ref (K + 7), .ref (K + 8), .int 0, .int 0])) H := hat_a0.kept (oq _ (by omega))
  have hat_K7 : va_at D vwCl ((K + 7), .inl (cy 3, 16, .inr (.inr (.inr (.inr (va_up (va_up (va_up (va_up (va_up (va_up (va_up (va_up (va_up (va_up (fun _ => none) (0 : Int32).toNatClampNeg (some (K + 14))) (1 : Int32).toNatClampNeg (some (K + 24))) (2 : Int32).toNatClampNeg (some (K + 34))) (3 : Int32).toNatClampNeg (some (K + 44))) (4 : Int32).toNatClampNeg (some (K + 54))) (5 : Int32).toNatClampNeg (some (K + 64))) (6 : Int32).toNatClampNeg (some (K + 74))) (7 : Int32).toNatClampNeg (some (K + 84))) (8 : Int32).toNatClampNeg (some (K + 94))) (9 : Int32).toNatClampNeg (some (K + 104)))))))) H := hat_K7.kept (oq _ (by omega))
  have hat_K : va_at D vwCl (K, .inl (cy 3, 16, .inr (.inr (.inr (.inr (va_up (va_up (va_up (va_up (va_up (va_up (va_up (va_up (va_up (va_up (va_up (fun _ => none) (0 : Int32).toNatClampNeg (some (K + 9))) (1 : Int32).toNatClampNeg (some (K + 19))) (2 : Int32).toNatClampNeg (some (K + 29))) (3 : Int32).toNatClampNeg (some (K + 39))) (4 : Int32).toNatClampNeg (some (K + 49))) (5 : Int32).toNatClampNeg (some (K + 59))) (6 : Int32).toNatClampNeg (some (K + 69))) (7 : Int32).toNatClampNeg (some (K + 79))) (8 : Int32).toNatClampNeg (some (K + 89))) (9 : Int32).toNatClampNeg (some (K + 99))) (10 : Int32).toNatClampNeg (some (K + 109)))))))) H := hat_n
  have hG : rc_G D cy ld t ((K + 7) :: K :: a0 :: X) (K + 114) H := hG.ajar (by simp) z9 oq
  refine lv_aload_n hx hb dX1_init_80 rfl (lv_at hl 1 rfl) ?_
  refine va_get (ci := 1) (C := RX1) (T := TX1) (N := 11) hx hb htl inX1 hown hK.1 (tk_one hat_a0) 0 rfl rfl 7 (by decide) (htl _ mw_112) (fun _ h9 => h9) rfl dX1_init_81 ?_
  refine lv_iload_n hx hb dX1_init_84 rfl (lv_at hl 0 rfl) ?_
  refine rc_new (ci := 9) (fs := [.null, .null, .null, .null, .int 0, .int 0, .int 0, .int 0, .int 0, .int 0, .int 0]) (C := RX9) (T := TX9) (N := 11) hx hb htl inX9 tyX9 tyX9_ok hown (htl _ mw_108) (htl _ mw_75) (htl _ mw_76) hK hG hS rfl dfX9 (Nat.le_of_ble_eq_true rfl) (Nat.le_of_ble_eq_true rfl) dX1_init_85 (fun H hG hat_n oq hS => ?_)
  have hat_a0 : va_at D vwCl (a0, .inr (1, [.int 0, .ref a1, .ref a2, .ref K, .ref (K + 1), .int 0, .ref (K + 2), .ref (K + 7), .ref (K + 8), .int 0, .int 0])) H := hat_a0.kept (oq _ (by omega))
  have hat_K : va_at D vwCl (K, .inl (cy 3, 16, .inr (.inr (.inr (.inr (va_up (va_up (va_up (va_up (va_up (va_up (va_up (va_up (va_up (va_up (va_up (fun _ => none) (0 : Int32).toNatClampNeg (some (K + 9))) (1 : Int32).toNatClampNeg (some (K + 19))) (2 : Int32).toNatClampNeg (some (K + 29))) (3 : Int32).toNatClampNeg (some (K + 39))) (4 : Int32).toNatClampNeg (some (K + 49))) (5 : Int32).toNatClampNeg (some (K + 59))) (6 : Int32).toNatClampNeg (some (K + 69))) (7 : Int32).toNatClampNeg (some (K + 79))) (8 : Int32).toNatClampNeg (some (K + 89))) (9 : Int32).toNatClampNeg (some (K + 99))) (10 : Int32).toNatClampNeg (some (K + 109)))))))) H := hat_K.kept (oq _ (by omega))
  have hat_K7 : va_at D vwCl ((K + 7), .inl (cy 3, 16, .inr (.inr (.inr (.inr (va_up (va_up (va_up (va_up (va_up (va_up (va_up (va_up (va_up (va_up (fun _ => none) (0 : Int32).toNatClampNeg (some (K + 14))) (1 : Int32).toNatClampNeg (some (K + 24))) (2 : Int32).toNatClampNeg (some (K + 34))) (3 : Int32).toNatClampNeg (some (K + 44))) (4 : Int32).toNatClampNeg (some (K + 54))) (5 : Int32).toNatClampNeg (some (K + 64))) (6 : Int32).toNatClampNeg (some (K + 74))) (7 : Int32).toNatClampNeg (some (K + 84))) (8 : Int32).toNatClampNeg (some (K + 94))) (9 : Int32).toNatClampNeg (some (K + 104)))))))) H := hat_K7.kept (oq _ (by omega))
  refine W.widen (k := 115) (n := 889) (Nat.le_of_ble_eq_true rfl) (Nat.le_of_ble_eq_true rfl) ?_
  have hG : rc_G D cy ld t ((K + 114) :: (K + 7) :: K :: a0 :: X) (K + 115) H := hG
  have hat_K114 : va_at D vwCl ((K + 114), .inr (9, [.null, .null, .null, .null, .int 0, .int 0, .int 0, .int 0, .int 0, .int 0, .int 0])) H := hat_n
  refine lv_dup hx hb dX1_init_88 rfl ?_
  have hXX := kc_X9 l D cy ld t ((K + 7) :: K :: a0 :: X) (K + 114) (K + 115) 3 ht114 hs115  (fun q hq => rc_nin (by omega) (rc_nin (by omega) (rc_nin (by omega) (hX q (by omega)))))
  refine rc_I (As := []) (rest := [.ref (K + 114), .int 10, .ref (K + 7)]) (ci := 9) (n1 := (K + 119)) ⟨hx, hb, hml, hown, hts⟩ hK hG hat_K114 hS (fun q h9 => by show _ = _ ∨ _ ≤ _; omega) hXX ⟨callB_of 0 hts (wl_in mw_80) rfl rfl rfl (htl _ mw_76) (htl _ mw_116) hd_yX9_init ⟨(Nat.le_of_ble_eq_true rfl), (Nat.le_of_ble_eq_true rfl)⟩, rfl, htl _ mw_79⟩ rfl hl.1 rfl (Nat.le_of_ble_eq_true rfl) dX1_init_89 ⟨(Nat.le_of_ble_eq_true rfl), (Nat.le_of_ble_eq_true rfl)⟩ (fun H locs hG oq hS => ?_)
  have hat_a0 : va_at D vwCl (a0, .inr (1, [.int 0, .ref a1, .ref a2, .ref K, .ref (K + 1), .int 0, .ref (K + 2), .ref (K + 7), .ref (K + 8), .int 0, .int 0])) H := hat_a0.kept (oq _ (by omega) (by omega))
  have hat_K : va_at D vwCl (K, .inl (cy 3, 16, .inr (.inr (.inr (.inr (va_up (va_up (va_up (va_up (va_up (va_up (va_up (va_up (va_up (va_up (va_up (fun _ => none) (0 : Int32).toNatClampNeg (some (K + 9))) (1 : Int32).toNatClampNeg (some (K + 19))) (2 : Int32).toNatClampNeg (some (K + 29))) (3 : Int32).toNatClampNeg (some (K + 39))) (4 : Int32).toNatClampNeg (some (K + 49))) (5 : Int32).toNatClampNeg (some (K + 59))) (6 : Int32).toNatClampNeg (some (K + 69))) (7 : Int32).toNatClampNeg (some (K + 79))) (8 : Int32).toNatClampNeg (some (K + 89))) (9 : Int32).toNatClampNeg (some (K + 99))) (10 : Int32).toNatClampNeg (some (K + 109)))))))) H := hat_K.kept (oq _ (by omega) (by omega))
  have hat_K7 : va_at D vwCl ((K + 7), .inl (cy 3, 16, .inr (.inr (.inr (.inr (va_up (va_up (va_up (va_up (va_up (va_up (va_up (va_up (va_up (va_up (fun _ => none) (0 : Int32).toNatClampNeg (some (K + 14))) (1 : Int32).toNatClampNeg (some (K + 24))) (2 : Int32).toNatClampNeg (some (K + 34))) (3 : Int32).toNatClampNeg (some (K + 44))) (4 : Int32).toNatClampNeg (some (K + 54))) (5 : Int32).toNatClampNeg (some (K + 64))) (6 : Int32).toNatClampNeg (some (K + 74))) (7 : Int32).toNatClampNeg (some (K + 84))) (8 : Int32).toNatClampNeg (some (K + 94))) (9 : Int32).toNatClampNeg (some (K + 104)))))))) H := hat_K7.kept (oq _ (by omega) (by omega))
  refine W.widen (k := 119) (n := 915) (Nat.le_of_ble_eq_true rfl) (Nat.le_of_ble_eq_true rfl) ?_
  have hG : rc_G D cy ld t ((K + 7) :: K :: a0 :: X) (K + 119) H := hG
  obtain ⟨fs9, hv9, -⟩ := hG.obj (ci := 9) ht114 (by decide) (by omega) (rc_nin (by omega) ( rc_nin (by omega) ( rc_nin (by omega) (hX _ (by omega)))))
  refine rc_aast (ci := 9) (r := (RX9, TX9, 11)) hx hb hK 3 hat_K7 rfl hv9 rfl (fx_in (by decide)) dX1_init_92 (fun H j9 hat_n z9 oq => ?_)
  have hS := hS.put (k := j9) z9 oq (by show _ = _ ∨ _ ≤ _; omega)
  have hat_a0 : va_at D vwCl (a0, .inr (1, [.int 0, .ref a1, .ref a2, .ref K, .ref (K + 1), .int 0, .ref (K + 2), .ref (K + 7), .ref (K + 8), .int 0, .int 0])) H := hat_a0.kept (oq _ (by omega))
  have hat_K : va_at D vwCl (K, .inl (cy 3, 16, .inr (.inr (.inr (.inr (va_up (va_up (va_up (va_up (va_up (va_up (va_up (va_up (va_up (va_up (va_up (fun _ => none) (0 : Int32).toNatClampNeg (some (K + 9))) (1 : Int32).toNatClampNeg (some (K + 19))) (2 : Int32).toNatClampNeg (some (K + 29))) (3 : Int32).toNatClampNeg (some (K + 39))) (4 : Int32).toNatClampNeg (some (K + 49))) (5 : Int32).toNatClampNeg (some (K + 59))) (6 : Int32).toNatClampNeg (some (K + 69))) (7 : Int32).toNatClampNeg (some (K + 79))) (8 : Int32).toNatClampNeg (some (K + 89))) (9 : Int32).toNatClampNeg (some (K + 99))) (10 : Int32).toNatClampNeg (some (K + 109)))))))) H := hat_K.kept (oq _ (by omega))
  have hat_K7 : va_at D vwCl ((K + 7), .inl (cy 3, 16, .inr (.inr (.inr (.inr (va_up (va_up (va_up (va_up (va_up (va_up (va_up (va_up (va_up (va_up (va_up (fun _ => none) (0 : Int32).toNatClampNeg (some (K + 14))) (1 : Int32).toNatClampNeg (some (K + 24))) (2 : Int32).toNatClampNeg (some (K + 34))) (3 : Int32).toNatClampNeg (some (K + 44))) (4 : Int32).toNatClampNeg (some (K + 54))) (5 : Int32).toNatClampNeg (some (K + 64))) (6 : Int32).toNatClampNeg (some (K + 74))) (7 : Int32).toNatClampNeg (some (K + 84))) (8 : Int32).toNatClampNeg (some (K + 94))) (9 : Int32).toNatClampNeg (some (K + 104))) (10 : Int32).toNatClampNeg (some (K + 114)))))))) H := hat_n
  have hG : rc_G D cy ld t ((K + 7) :: K :: a0 :: X) (K + 119) H := hG.ajar (by simp) z9 oq
  refine lv_iinc (v := 11) (lv' := [(3, .int 11), (0, .ref a0), (1, .ref a1), (2, .ref a2)]) hx hb dX1_init_93 hl (k := 0) rfl (by decide) (by decide) rfl (fun ls hl => ?_)
  refine lv_goto (tgt := 61) hx hb dX1_init_96 (by decide) ?_
  refine lv_iload_n hx hb dX1_init_61 rfl (lv_at hl 0 rfl) ?_
  refine lv_bipush (v := 16) hx hb dX1_init_62 (by decide) ?_
  refine lv_icmp_ge (tgt := 99) hx hb dX1_init_64 (by decide) (fun c9 => absurd c9 (by decide)) (fun _ => ?_)
  refine lv_aload_n hx hb dX1_init_67 rfl (lv_at hl 1 rfl) ?_
  refine va_get (ci := 1) (C := RX1) (T := TX1) (N := 11) hx hb htl inX1 hown hK.1 (tk_one hat_a0) 0 rfl rfl 3 (by decide) (htl _ mw_109) (fun _ h9 => h9) rfl dX1_init_68 ?_
  refine lv_iload_n hx hb dX1_init_71 rfl (lv_at hl 0 rfl) ?_
  refine rc_new (ci := 9) (fs := [.null, .null, .null, .null, .int 0, .int 0, .int 0, .int 0, .int 0, .int 0, .int 0]) (C := RX9) (T := TX9) (N := 11) hx hb htl inX9 tyX9 tyX9_ok hown (htl _ mw_108) (htl _ mw_75) (htl _ mw_76) hK hG hS rfl dfX9 (Nat.le_of_ble_eq_true rfl) (Nat.le_of_ble_eq_true rfl) dX1_init_72 (fun H hG hat_n oq hS => ?_)
  have hat_a0 : va_at D vwCl (a0, .inr (1, [.int 0, .ref a1, .ref a2, .ref K, .ref (K + 1), .int 0, .ref (K + 2), .ref (K + 7), .ref (K + 8), .int 0, .int 0])) H := hat_a0.kept (oq _ (by omega))
  have hat_K : va_at D vwCl (K, .inl (cy 3, 16, .inr (.inr (.inr (.inr (va_up (va_up (va_up (va_up (va_up (va_up (va_up (va_up (va_up (va_up (va_up (fun _ => none) (0 : Int32).toNatClampNeg (some (K + 9))) (1 : Int32).toNatClampNeg (some (K + 19))) (2 : Int32).toNatClampNeg (some (K + 29))) (3 : Int32).toNatClampNeg (some (K + 39))) (4 : Int32).toNatClampNeg (some (K + 49))) (5 : Int32).toNatClampNeg (some (K + 59))) (6 : Int32).toNatClampNeg (some (K + 69))) (7 : Int32).toNatClampNeg (some (K + 79))) (8 : Int32).toNatClampNeg (some (K + 89))) (9 : Int32).toNatClampNeg (some (K + 99))) (10 : Int32).toNatClampNeg (some (K + 109)))))))) H := hat_K.kept (oq _ (by omega))
  have hat_K7 : va_at D vwCl ((K + 7), .inl (cy 3, 16, .inr (.inr (.inr (.inr (va_up (va_up (va_up (va_up (va_up (va_up (va_up (va_up (va_up (va_up (va_up (fun _ => none) (0 : Int32).toNatClampNeg (some (K + 14))) (1 : Int32).toNatClampNeg (some (K + 24))) (2 : Int32).toNatClampNeg (some (K + 34))) (3 : Int32).toNatClampNeg (some (K + 44))) (4 : Int32).toNatClampNeg (some (K + 54))) (5 : Int32).toNatClampNeg (some (K + 64))) (6 : Int32).toNatClampNeg (some (K + 74))) (7 : Int32).toNatClampNeg (some (K + 84))) (8 : Int32).toNatClampNeg (some (K + 94))) (9 : Int32).toNatClampNeg (some (K + 104))) (10 : Int32).toNatClampNeg (some (K + 114)))))))) H := hat_K7.kept (oq _ (by omega))
  refine W.widen (k := 120) (n := 926) (Nat.le_of_ble_eq_true rfl) (Nat.le_of_ble_eq_true rfl) ?_
  have hG : rc_G D cy ld t ((K + 119) :: (K + 7) :: K :: a0 :: X) (K + 120) H := hG
  have hat_K119 : va_at D vwCl ((K + 119), .inr (9, [.null, .null, .null, .null, .int 0, .int 0, .int 0, .int 0, .int 0, .int 0, .int 0])) H := hat_n
  refine lv_dup hx hb dX1_init_75 rfl ?_
  have hXX := kc_X9 l D cy ld t ((K + 7) :: K :: a0 :: X) (K + 119) (K + 120) 1 ht119 hs120  (fun q hq => rc_nin (by omega) (rc_nin (by omega) (rc_nin (by omega) (hX q (by omega)))))
  refine rc_I (As := []) (rest := [.ref (K + 119), .int 11, .ref K]) (ci := 9) (n1 := (K + 124)) ⟨hx, hb, hml, hown, hts⟩ hK hG hat_K119 hS (fun q h9 => by show _ = _ ∨ _ ≤ _; omega) hXX ⟨callB_of 0 hts (wl_in mw_80) rfl rfl rfl (htl _ mw_76) (htl _ mw_116) hd_yX9_init ⟨(Nat.le_of_ble_eq_true rfl), (Nat.le_of_ble_eq_true rfl)⟩, rfl, htl _ mw_79⟩ rfl hl.1 rfl (Nat.le_of_ble_eq_true rfl) dX1_init_76 ⟨(Nat.le_of_ble_eq_true rfl), (Nat.le_of_ble_eq_true rfl)⟩ (fun H locs hG oq hS => ?_)
  have hat_a0 : va_at D vwCl (a0, .inr (1, [.int 0, .ref a1, .ref a2, .ref K, .ref (K + 1), .int 0, .ref (K + 2), .ref (K + 7), .ref (K + 8), .int 0, .int 0])) H := hat_a0.kept (oq _ (by omega) (by omega))
  have hat_K : va_at D vwCl (K, .inl (cy 3, 16, .inr (.inr (.inr (.inr (va_up (va_up (va_up (va_up (va_up (va_up (va_up (va_up (va_up (va_up (va_up (fun _ => none) (0 : Int32).toNatClampNeg (some (K + 9))) (1 : Int32).toNatClampNeg (some (K + 19))) (2 : Int32).toNatClampNeg (some (K + 29))) (3 : Int32).toNatClampNeg (some (K + 39))) (4 : Int32).toNatClampNeg (some (K + 49))) (5 : Int32).toNatClampNeg (some (K + 59))) (6 : Int32).toNatClampNeg (some (K + 69))) (7 : Int32).toNatClampNeg (some (K + 79))) (8 : Int32).toNatClampNeg (some (K + 89))) (9 : Int32).toNatClampNeg (some (K + 99))) (10 : Int32).toNatClampNeg (some (K + 109)))))))) H := hat_K.kept (oq _ (by omega) (by omega))
  have hat_K7 : va_at D vwCl ((K + 7), .inl (cy 3, 16, .inr (.inr (.inr (.inr (va_up (va_up (va_up (va_up (va_up (va_up (va_up (va_up (va_up (va_up (va_up (fun _ => none) (0 : Int32).toNatClampNeg (some (K + 14))) (1 : Int32).toNatClampNeg (some (K + 24))) (2 : Int32).toNatClampNeg (some (K + 34))) (3 : Int32).toNatClampNeg (some (K + 44))) (4 : Int32).toNatClampNeg (some (K + 54))) (5 : Int32).toNatClampNeg (some (K + 64))) (6 : Int32).toNatClampNeg (some (K + 74))) (7 : Int32).toNatClampNeg (some (K + 84))) (8 : Int32).toNatClampNeg (some (K + 94))) (9 : Int32).toNatClampNeg (some (K + 104))) (10 : Int32).toNatClampNeg (some (K + 114)))))))) H := hat_K7.kept (oq _ (by omega) (by omega))
  refine W.widen (k := 124) (n := 952) (Nat.le_of_ble_eq_true rfl) (Nat.le_of_ble_eq_true rfl) ?_
  have hG : rc_G D cy ld t ((K + 7) :: K :: a0 :: X) (K + 124) H := hG
  obtain ⟨fs9, hv9, -⟩ := hG.obj (ci := 9) ht119 (by decide) (by omega) (rc_nin (by omega) ( rc_nin (by omega) ( rc_nin (by omega) (hX _ (by omega)))))
  refine rc_aast (ci := 9) (r := (RX9, TX9, 11)) hx hb hK 3 hat_K rfl hv9 rfl (fx_in (by decide)) dX1_init_79 (fun H j9 hat_n z9 oq => ?_)
  have hS := hS.put (k := j9) z9 oq (by show _ = _ ∨ _ ≤ _; omega)
  have hat_a0 : va_at D vwCl (a0, .inr (1, [.int 0, .ref a1, .ref a2, .ref K, .ref (K + 1), .int 0, .ref (K + 2), .ref (K + 7), .ref (K + 8), .int 0, .int 0])) H := hat_a0.kept (oq _ (by omega))
  have hat_K7 : va_at D vwCl ((K + 7), .inl (cy 3, 16, .inr (.inr (.inr (.inr (va_up (va_up (va_up (va_up (va_up (va_up (va_up (va_up (va_up (va_up (va_up (fun _ => none) (0 : Int32).toNatClampNeg (some (K + 14))) (1 : Int32).toNatClampNeg (some (K + 24))) (2 : Int32).toNatClampNeg (some (K + 34))) (3 : Int32).toNatClampNeg (some (K + 44))) (4 : Int32).toNatClampNeg (some (K + 54))) (5 : Int32).toNatClampNeg (some (K + 64))) (6 : Int32).toNatClampNeg (some (K + 74))) (7 : Int32).toNatClampNeg (some (K + 84))) (8 : Int32).toNatClampNeg (some (K + 94))) (9 : Int32).toNatClampNeg (some (K + 104))) (10 : Int32).toNatClampNeg (some (K + 114)))))))) H := hat_K7.kept (oq _ (by omega))
  have hat_K : va_at D vwCl (K, .inl (cy 3, 16, .inr (.inr (.inr (.inr (va_up (va_up (va_up (va_up (va_up (va_up (va_up (va_up (va_up (va_up (va_up (va_up (fun _ => none) (0 : Int32).toNatClampNeg (some (K + 9))) (1 : Int32).toNatClampNeg (some (K + 19))) (2 : Int32).toNatClampNeg (some (K + 29))) (3 : Int32).toNatClampNeg (some (K + 39))) (4 : Int32).toNatClampNeg (some (K + 49))) (5 : Int32).toNatClampNeg (some (K + 59))) (6 : Int32).toNatClampNeg (some (K + 69))) (7 : Int32).toNatClampNeg (some (K + 79))) (8 : Int32).toNatClampNeg (some (K + 89))) (9 : Int32).toNatClampNeg (some (K + 99))) (10 : Int32).toNatClampNeg (some (K + 109))) (11 : Int32).toNatClampNeg (some (K + 119)))))))) H := hat_n
  have hG : rc_G D cy ld t ((K + 7) :: K :: a0 :: X) (K + 124) H := hG.ajar (by simp) z9 oq
  refine lv_aload_n hx hb dX1_init_80 rfl (lv_at hl 1 rfl) ?_
  refine va_get (ci := 1) (C := RX1) (T := TX1) (N := 11) hx hb htl inX1 hown hK.1 (tk_one hat_a0) 0 rfl rfl 7 (by decide) (htl _ mw_112) (fun _ h9 => h9) rfl dX1_init_81 ?_
  refine lv_iload_n hx hb dX1_init_84 rfl (lv_at hl 0 rfl) ?_
  refine rc_new (ci := 9) (fs := [.null, .null, .null, .null, .int 0, .int 0, .int 0, .int 0, .int 0, .int 0, .int 0]) (C := RX9) (T := TX9) (N := 11) hx hb htl inX9 tyX9 tyX9_ok hown (htl _ mw_108) (htl _ mw_75) (htl _ mw_76) hK hG hS rfl dfX9 (Nat.le_of_ble_eq_true rfl) (Nat.le_of_ble_eq_true rfl) dX1_init_85 (fun H hG hat_n oq hS => ?_)
  have hat_a0 : va_at D vwCl (a0, .inr (1, [.int 0, .ref a1, .ref a2, .ref K, .ref (K + 1), .int 0, .ref (K + 2), .ref (K + 7), .ref (K + 8), .int 0, .int 0])) H := hat_a0.kept (oq _ (by omega))
  have hat_K : va_at D vwCl (K, .inl (cy 3, 16, .inr (.inr (.inr (.inr (va_up (va_up (va_up (va_up (va_up (va_up (va_up (va_up (va_up (va_up (va_up (va_up (fun _ => none) (0 : Int32).toNatClampNeg (some (K + 9))) (1 : Int32).toNatClampNeg (some (K + 19))) (2 : Int32).toNatClampNeg (some (K + 29))) (3 : Int32).toNatClampNeg (some (K + 39))) (4 : Int32).toNatClampNeg (some (K + 49))) (5 : Int32).toNatClampNeg (some (K + 59))) (6 : Int32).toNatClampNeg (some (K + 69))) (7 : Int32).toNatClampNeg (some (K + 79))) (8 : Int32).toNatClampNeg (some (K + 89))) (9 : Int32).toNatClampNeg (some (K + 99))) (10 : Int32).toNatClampNeg (some (K + 109))) (11 : Int32).toNatClampNeg (some (K + 119)))))))) H := hat_K.kept (oq _ (by omega))
  have hat_K7 : va_at D vwCl ((K + 7), .inl (cy 3, 16, .inr (.inr (.inr (.inr (va_up (va_up (va_up (va_up (va_up (va_up (va_up (va_up (va_up (va_up (va_up (fun _ => none) (0 : Int32).toNatClampNeg (some (K + 14))) (1 : Int32).toNatClampNeg (some (K + 24))) (2 : Int32).toNatClampNeg (some (K + 34))) (3 : Int32).toNatClampNeg (some (K + 44))) (4 : Int32).toNatClampNeg (some (K + 54))) (5 : Int32).toNatClampNeg (some (K + 64))) (6 : Int32).toNatClampNeg (some (K + 74))) (7 : Int32).toNatClampNeg (some (K + 84))) (8 : Int32).toNatClampNeg (some (K + 94))) (9 : Int32).toNatClampNeg (some (K + 104))) (10 : Int32).toNatClampNeg (some (K + 114)))))))) H := hat_K7.kept (oq _ (by omega))
  refine W.widen (k := 125) (n := 963) (Nat.le_of_ble_eq_true rfl) (Nat.le_of_ble_eq_true rfl) ?_
  have hG : rc_G D cy ld t ((K + 124) :: (K + 7) :: K :: a0 :: X) (K + 125) H := hG
  have hat_K124 : va_at D vwCl ((K + 124), .inr (9, [.null, .null, .null, .null, .int 0, .int 0, .int 0, .int 0, .int 0, .int 0, .int 0])) H := hat_n
  refine lv_dup hx hb dX1_init_88 rfl ?_
  have hXX := kc_X9 l D cy ld t ((K + 7) :: K :: a0 :: X) (K + 124) (K + 125) 3 ht124 hs125  (fun q hq => rc_nin (by omega) (rc_nin (by omega) (rc_nin (by omega) (hX q (by omega)))))
  refine rc_I (As := []) (rest := [.ref (K + 124), .int 11, .ref (K + 7)]) (ci := 9) (n1 := (K + 129)) ⟨hx, hb, hml, hown, hts⟩ hK hG hat_K124 hS (fun q h9 => by show _ = _ ∨ _ ≤ _; omega) hXX ⟨callB_of 0 hts (wl_in mw_80) rfl rfl rfl (htl _ mw_76) (htl _ mw_116) hd_yX9_init ⟨(Nat.le_of_ble_eq_true rfl), (Nat.le_of_ble_eq_true rfl)⟩, rfl, htl _ mw_79⟩ rfl hl.1 rfl (Nat.le_of_ble_eq_true rfl) dX1_init_89 ⟨(Nat.le_of_ble_eq_true rfl), (Nat.le_of_ble_eq_true rfl)⟩ (fun H locs hG oq hS => ?_)
  have hat_a0 : va_at D vwCl (a0, .inr (1, [.int 0, .ref a1, .ref a2, .ref K, .ref (K + 1), .int 0, .ref (K + 2), .ref (K + 7), .ref (K + 8), .int 0, .int 0])) H := hat_a0.kept (oq _ (by omega) (by omega))
  have hat_K : va_at D vwCl (K, .inl (cy 3, 16, .inr (.inr (.inr (.inr (va_up (va_up (va_up (va_up (va_up (va_up (va_up (va_up (va_up (va_up (va_up (va_up (fun _ => none) (0 : Int32).toNatClampNeg (some (K + 9))) (1 : Int32).toNatClampNeg (some (K + 19))) (2 : Int32).toNatClampNeg (some (K + 29))) (3 : Int32).toNatClampNeg (some (K + 39))) (4 : Int32).toNatClampNeg (some (K + 49))) (5 : Int32).toNatClampNeg (some (K + 59))) (6 : Int32).toNatClampNeg (some (K + 69))) (7 : Int32).toNatClampNeg (some (K + 79))) (8 : Int32).toNatClampNeg (some (K + 89))) (9 : Int32).toNatClampNeg (some (K + 99))) (10 : Int32).toNatClampNeg (some (K + 109))) (11 : Int32).toNatClampNeg (some (K + 119)))))))) H := hat_K.kept (oq _ (by omega) (by omega))
  have hat_K7 : va_at D vwCl ((K + 7), .inl (cy 3, 16, .inr (.inr (.inr (.inr (va_up (va_up (va_up (va_up (va_up (va_up (va_up (va_up (va_up (va_up (va_up (fun _ => none) (0 : Int32).toNatClampNeg (some (K + 14))) (1 : Int32).toNatClampNeg (some (K + 24))) (2 : Int32).toNatClampNeg (some (K + 34))) (3 : Int32).toNatClampNeg (some (K + 44))) (4 : Int32).toNatClampNeg (some (K + 54))) (5 : Int32).toNatClampNeg (some (K + 64))) (6 : Int32).toNatClampNeg (some (K + 74))) (7 : Int32).toNatClampNeg (some (K + 84))) (8 : Int32).toNatClampNeg (some (K + 94))) (9 : Int32).toNatClampNeg (some (K + 104))) (10 : Int32).toNatClampNeg (some (K + 114)))))))) H := hat_K7.kept (oq _ (by omega) (by omega))
  refine W.widen (k := 129) (n := 989) (Nat.le_of_ble_eq_true rfl) (Nat.le_of_ble_eq_true rfl) ?_
  have hG : rc_G D cy ld t ((K + 7) :: K :: a0 :: X) (K + 129) H := hG
  obtain ⟨fs9, hv9, -⟩ := hG.obj (ci := 9) ht124 (by decide) (by omega) (rc_nin (by omega) ( rc_nin (by omega) ( rc_nin (by omega) (hX _ (by omega)))))
  refine rc_aast (ci := 9) (r := (RX9, TX9, 11)) hx hb hK 3 hat_K7 rfl hv9 rfl (fx_in (by decide)) dX1_init_92 (fun H j9 hat_n z9 oq => ?_)
  have hS := hS.put (k := j9) z9 oq (by show _ = _ ∨ _ ≤ _; omega)
  have hat_a0 : va_at D vwCl (a0, .inr (1, [.int 0, .ref a1, .ref a2, .ref K, .ref (K + 1), .int 0, .ref (K + 2), .ref (K + 7), .ref (K + 8), .int 0, .int 0])) H := hat_a0.kept (oq _ (by omega))
  have hat_K : va_at D vwCl (K, .inl (cy 3, 16, .inr (.inr (.inr (.inr (va_up (va_up (va_up (va_up (va_up (va_up (va_up (va_up (va_up (va_up (va_up (va_up (fun _ => none) (0 : Int32).toNatClampNeg (some (K + 9))) (1 : Int32).toNatClampNeg (some (K + 19))) (2 : Int32).toNatClampNeg (some (K + 29))) (3 : Int32).toNatClampNeg (some (K + 39))) (4 : Int32).toNatClampNeg (some (K + 49))) (5 : Int32).toNatClampNeg (some (K + 59))) (6 : Int32).toNatClampNeg (some (K + 69))) (7 : Int32).toNatClampNeg (some (K + 79))) (8 : Int32).toNatClampNeg (some (K + 89))) (9 : Int32).toNatClampNeg (some (K + 99))) (10 : Int32).toNatClampNeg (some (K + 109))) (11 : Int32).toNatClampNeg (some (K + 119)))))))) H := hat_K.kept (oq _ (by omega))
  have hat_K7 : va_at D vwCl ((K + 7), .inl (cy 3, 16, .inr (.inr (.inr (.inr (va_up (va_up (va_up (va_up (va_up (va_up (va_up (va_up (va_up (va_up (va_up (va_up (fun _ => none) (0 : Int32).toNatClampNeg (some (K + 14))) (1 : Int32).toNatClampNeg (some (K + 24))) (2 : Int32).toNatClampNeg (some (K + 34))) (3 : Int32).toNatClampNeg (some (K + 44))) (4 : Int32).toNatClampNeg (some (K + 54))) (5 : Int32).toNatClampNeg (some (K + 64))) (6 : Int32).toNatClampNeg (some (K + 74))) (7 : Int32).toNatClampNeg (some (K + 84))) (8 : Int32).toNatClampNeg (some (K + 94))) (9 : Int32).toNatClampNeg (some (K + 104))) (10 : Int32).toNatClampNeg (some (K + 114))) (11 : Int32).toNatClampNeg (some (K + 124)))))))) H := hat_n
  have hG : rc_G D cy ld t ((K + 7) :: K :: a0 :: X) (K + 129) H := hG.ajar (by simp) z9 oq
  refine lv_iinc (v := 12) (lv' := [(3, .int 12), (0, .ref a0), (1, .ref a1), (2, .ref a2)]) hx hb dX1_init_93 hl (k := 0) rfl (by decide) (by decide) rfl (fun ls hl => ?_)
  refine lv_goto (tgt := 61) hx hb dX1_init_96 (by decide) ?_
  refine lv_iload_n hx hb dX1_init_61 rfl (lv_at hl 0 rfl) ?_
  refine lv_bipush (v := 16) hx hb dX1_init_62 (by decide) ?_
  refine lv_icmp_ge (tgt := 99) hx hb dX1_init_64 (by decide) (fun c9 => absurd c9 (by decide)) (fun _ => ?_)
  refine lv_aload_n hx hb dX1_init_67 rfl (lv_at hl 1 rfl) ?_
  refine va_get (ci := 1) (C := RX1) (T := TX1) (N := 11) hx hb htl inX1 hown hK.1 (tk_one hat_a0) 0 rfl rfl 3 (by decide) (htl _ mw_109) (fun _ h9 => h9) rfl dX1_init_68 ?_
  refine lv_iload_n hx hb dX1_init_71 rfl (lv_at hl 0 rfl) ?_
  refine rc_new (ci := 9) (fs := [.null, .null, .null, .null, .int 0, .int 0, .int 0, .int 0, .int 0, .int 0, .int 0]) (C := RX9) (T := TX9) (N := 11) hx hb htl inX9 tyX9 tyX9_ok hown (htl _ mw_108) (htl _ mw_75) (htl _ mw_76) hK hG hS rfl dfX9 (Nat.le_of_ble_eq_true rfl) (Nat.le_of_ble_eq_true rfl) dX1_init_72 (fun H hG hat_n oq hS => ?_)
  have hat_a0 : va_at D vwCl (a0, .inr (1, [.int 0, .ref a1, .ref a2, .ref K, .ref (K + 1), .int 0, .ref (K + 2), .ref (K + 7), .ref (K + 8), .int 0, .int 0])) H := hat_a0.kept (oq _ (by omega))
  have hat_K : va_at D vwCl (K, .inl (cy 3, 16, .inr (.inr (.inr (.inr (va_up (va_up (va_up (va_up (va_up (va_up (va_up (va_up (va_up (va_up (va_up (va_up (fun _ => none) (0 : Int32).toNatClampNeg (some (K + 9))) (1 : Int32).toNatClampNeg (some (K + 19))) (2 : Int32).toNatClampNeg (some (K + 29))) (3 : Int32).toNatClampNeg (some (K + 39))) (4 : Int32).toNatClampNeg (some (K + 49))) (5 : Int32).toNatClampNeg (some (K + 59))) (6 : Int32).toNatClampNeg (some (K + 69))) (7 : Int32).toNatClampNeg (some (K + 79))) (8 : Int32).toNatClampNeg (some (K + 89))) (9 : Int32).toNatClampNeg (some (K + 99))) (10 : Int32).toNatClampNeg (some (K + 109))) (11 : Int32).toNatClampNeg (some (K + 119)))))))) H := hat_K.kept (oq _ (by omega))
  have hat_K7 : va_at D vwCl ((K + 7), .inl (cy 3, 16, .inr (.inr (.inr (.inr (va_up (va_up (va_up (va_up (va_up (va_up (va_up (va_up (va_up (va_up (va_up (va_up (fun _ => none) (0 : Int32).toNatClampNeg (some (K + 14))) (1 : Int32).toNatClampNeg (some (K + 24))) (2 : Int32).toNatClampNeg (some (K + 34))) (3 : Int32).toNatClampNeg (some (K + 44))) (4 : Int32).toNatClampNeg (some (K + 54))) (5 : Int32).toNatClampNeg (some (K + 64))) (6 : Int32).toNatClampNeg (some (K + 74))) (7 : Int32).toNatClampNeg (some (K + 84))) (8 : Int32).toNatClampNeg (some (K + 94))) (9 : Int32).toNatClampNeg (some (K + 104))) (10 : Int32).toNatClampNeg (some (K + 114))) (11 : Int32).toNatClampNeg (some (K + 124)))))))) H := hat_K7.kept (oq _ (by omega))
  refine W.widen (k := 130) (n := 1000) (Nat.le_of_ble_eq_true rfl) (Nat.le_of_ble_eq_true rfl) ?_
  have hG : rc_G D cy ld t ((K + 129) :: (K + 7) :: K :: a0 :: X) (K + 130) H := hG
  have hat_K129 : va_at D vwCl ((K + 129), .inr (9, [.null, .null, .null, .null, .int 0, .int 0, .int 0, .int 0, .int 0, .int 0, .int 0])) H := hat_n
  refine lv_dup hx hb dX1_init_75 rfl ?_
  have hXX := kc_X9 l D cy ld t ((K + 7) :: K :: a0 :: X) (K + 129) (K + 130) 1 ht129 hs130  (fun q hq => rc_nin (by omega) (rc_nin (by omega) (rc_nin (by omega) (hX q (by omega)))))
  refine rc_I (As := []) (rest := [.ref (K + 129), .int 12, .ref K]) (ci := 9) (n1 := (K + 134)) ⟨hx, hb, hml, hown, hts⟩ hK hG hat_K129 hS (fun q h9 => by show _ = _ ∨ _ ≤ _; omega) hXX ⟨callB_of 0 hts (wl_in mw_80) rfl rfl rfl (htl _ mw_76) (htl _ mw_116) hd_yX9_init ⟨(Nat.le_of_ble_eq_true rfl), (Nat.le_of_ble_eq_true rfl)⟩, rfl, htl _ mw_79⟩ rfl hl.1 rfl (Nat.le_of_ble_eq_true rfl) dX1_init_76 ⟨(Nat.le_of_ble_eq_true rfl), (Nat.le_of_ble_eq_true rfl)⟩ (fun H locs hG oq hS => ?_)
  have hat_a0 : va_at D vwCl (a0, .inr (1, [.int 0, .ref a1, .ref a2, .ref K, .ref (K + 1), .int 0, .ref (K + 2), .ref (K + 7), .ref (K + 8), .int 0, .int 0])) H := hat_a0.kept (oq _ (by omega) (by omega))
  have hat_K : va_at D vwCl (K, .inl (cy 3, 16, .inr (.inr (.inr (.inr (va_up (va_up (va_up (va_up (va_up (va_up (va_up (va_up (va_up (va_up (va_up (va_up (fun _ => none) (0 : Int32).toNatClampNeg (some (K + 9))) (1 : Int32).toNatClampNeg (some (K + 19))) (2 : Int32).toNatClampNeg (some (K + 29))) (3 : Int32).toNatClampNeg (some (K + 39))) (4 : Int32).toNatClampNeg (some (K + 49))) (5 : Int32).toNatClampNeg (some (K + 59))) (6 : Int32).toNatClampNeg (some (K + 69))) (7 : Int32).toNatClampNeg (some (K + 79))) (8 : Int32).toNatClampNeg (some (K + 89))) (9 : Int32).toNatClampNeg (some (K + 99))) (10 : Int32).toNatClampNeg (some (K + 109))) (11 : Int32).toNatClampNeg (some (K + 119)))))))) H := hat_K.kept (oq _ (by omega) (by omega))
  have hat_K7 : va_at D vwCl ((K + 7), .inl (cy 3, 16, .inr (.inr (.inr (.inr (va_up (va_up (va_up (va_up (va_up (va_up (va_up (va_up (va_up (va_up (va_up (va_up (fun _ => none) (0 : Int32).toNatClampNeg (some (K + 14))) (1 : Int32).toNatClampNeg (some (K + 24))) (2 : Int32).toNatClampNeg (some (K + 34))) (3 : Int32).toNatClampNeg (some (K + 44))) (4 : Int32).toNatClampNeg (some (K + 54))) (5 : Int32).toNatClampNeg (some (K + 64))) (6 : Int32).toNatClampNeg (some (K + 74))) (7 : Int32).toNatClampNeg (some (K + 84))) (8 : Int32).toNatClampNeg (some (K + 94))) (9 : Int32).toNatClampNeg (some (K + 104))) (10 : Int32).toNatClampNeg (some (K + 114))) (11 : Int32).toNatClampNeg (some (K + 124)))))))) H := hat_K7.kept (oq _ (by omega) (by omega))
  refine W.widen (k := 134) (n := 1026) (Nat.le_of_ble_eq_true rfl) (Nat.le_of_ble_eq_true rfl) ?_
  have hG : rc_G D cy ld t ((K + 7) :: K :: a0 :: X) (K + 134) H := hG
  obtain ⟨fs9, hv9, -⟩ := hG.obj (ci := 9) ht129 (by decide) (by omega) (rc_nin (by omega) ( rc_nin (by omega) ( rc_nin (by omega) (hX _ (by omega)))))
  refine rc_aast (ci := 9) (r := (RX9, TX9, 11)) hx hb hK 3 hat_K rfl hv9 rfl (fx_in (by decide)) dX1_init_79 (fun H j9 hat_n z9 oq => ?_)
  have hS := hS.put (k := j9) z9 oq (by show _ = _ ∨ _ ≤ _; omega)
  have hat_a0 : va_at D vwCl (a0, .inr (1, [.int 0, .ref a1, .ref a2, .ref K, .ref (K + 1), .int 0, .ref (K + 2), .ref (K + 7), .ref (K + 8), .int 0, .int 0])) H := hat_a0.kept (oq _ (by omega))
  have hat_K7 : va_at D vwCl ((K + 7), .inl (cy 3, 16, .inr (.inr (.inr (.inr (va_up (va_up (va_up (va_up (va_up (va_up (va_up (va_up (va_up (va_up (va_up (va_up (fun _ => none) (0 : Int32).toNatClampNeg (some (K + 14))) (1 : Int32).toNatClampNeg (some (K + 24))) (2 : Int32).toNatClampNeg (some (K + 34))) (3 : Int32).toNatClampNeg (some (K + 44))) (4 : Int32).toNatClampNeg (some (K + 54))) (5 : Int32).toNatClampNeg (some (K + 64))) (6 : Int32).toNatClampNeg (some (K + 74))) (7 : Int32).toNatClampNeg (some (K + 84))) (8 : Int32).toNatClampNeg (some (K + 94))) (9 : Int32).toNatClampNeg (some (K + 104))) (10 : Int32).toNatClampNeg (some (K + 114))) (11 : Int32).toNatClampNeg (some (K + 124)))))))) H := hat_K7.kept (oq _ (by omega))
  have hat_K : va_at D vwCl (K, .inl (cy 3, 16, .inr (.inr (.inr (.inr (va_up (va_up (va_up (va_up (va_up (va_up (va_up (va_up (va_up (va_up (va_up (va_up (va_up (fun _ => none) (0 : Int32).toNatClampNeg (some (K + 9))) (1 : Int32).toNatClampNeg (some (K + 19))) (2 : Int32).toNatClampNeg (some (K + 29))) (3 : Int32).toNatClampNeg (some (K + 39))) (4 : Int32).toNatClampNeg (some (K + 49))) (5 : Int32).toNatClampNeg (some (K + 59))) (6 : Int32).toNatClampNeg (some (K + 69))) (7 : Int32).toNatClampNeg (some (K + 79))) (8 : Int32).toNatClampNeg (some (K + 89))) (9 : Int32).toNatClampNeg (some (K + 99))) (10 : Int32).toNatClampNeg (some (K + 109))) (11 : Int32).toNatClampNeg (some (K + 119))) (12 : Int32).toNatClampNeg (some (K + 129)))))))) H := hat_n
  have hG : rc_G D cy ld t ((K + 7) :: K :: a0 :: X) (K + 134) H := hG.ajar (by simp) z9 oq
  refine lv_aload_n hx hb dX1_init_80 rfl (lv_at hl 1 rfl) ?_
  refine va_get (ci := 1) (C := RX1) (T := TX1) (N := 11) hx hb htl inX1 hown hK.1 (tk_one hat_a0) 0 rfl rfl 7 (by decide) (htl _ mw_112) (fun _ h9 => h9) rfl dX1_init_81 ?_
  refine lv_iload_n hx hb dX1_init_84 rfl (lv_at hl 0 rfl) ?_
  refine rc_new (ci := 9) (fs := [.null, .null, .null, .null, .int 0, .int 0, .int 0, .int 0, .int 0, .int 0, .int 0]) (C := RX9) (T := TX9) (N := 11) hx hb htl inX9 tyX9 tyX9_ok hown (htl _ mw_108) (htl _ mw_75) (htl _ mw_76) hK hG hS rfl dfX9 (Nat.le_of_ble_eq_true rfl) (Nat.le_of_ble_eq_true rfl) dX1_init_85 (fun H hG hat_n oq hS => ?_)
  have hat_a0 : va_at D vwCl (a0, .inr (1, [.int 0, .ref a1, .ref a2, .ref K, .ref (K + 1), .int 0, .ref (K + 2), .ref (K + 7), .ref (K + 8), .int 0, .int 0])) H := hat_a0.kept (oq _ (by omega))
  have hat_K : va_at D vwCl (K, .inl (cy 3, 16, .inr (.inr (.inr (.inr (va_up (va_up (va_up (va_up (va_up (va_up (va_up (va_up (va_up (va_up (va_up (va_up (va_up (fun _ => none) (0 : Int32).toNatClampNeg (some (K + 9))) (1 : Int32).toNatClampNeg (some (K + 19))) (2 : Int32).toNatClampNeg (some (K + 29))) (3 : Int32).toNatClampNeg (some (K + 39))) (4 : Int32).toNatClampNeg (some (K + 49))) (5 : Int32).toNatClampNeg (some (K + 59))) (6 : Int32).toNatClampNeg (some (K + 69))) (7 : Int32).toNatClampNeg (some (K + 79))) (8 : Int32).toNatClampNeg (some (K + 89))) (9 : Int32).toNatClampNeg (some (K + 99))) (10 : Int32).toNatClampNeg (some (K + 109))) (11 : Int32).toNatClampNeg (some (K + 119))) (12 : Int32).toNatClampNeg (some (K + 129)))))))) H := hat_K.kept (oq _ (by omega))
  have hat_K7 : va_at D vwCl ((K + 7), .inl (cy 3, 16, .inr (.inr (.inr (.inr (va_up (va_up (va_up (va_up (va_up (va_up (va_up (va_up (va_up (va_up (va_up (va_up (fun _ => none) (0 : Int32).toNatClampNeg (some (K + 14))) (1 : Int32).toNatClampNeg (some (K + 24))) (2 : Int32).toNatClampNeg (some (K + 34))) (3 : Int32).toNatClampNeg (some (K + 44))) (4 : Int32).toNatClampNeg (some (K + 54))) (5 : Int32).toNatClampNeg (some (K + 64))) (6 : Int32).toNatClampNeg (some (K + 74))) (7 : Int32).toNatClampNeg (some (K + 84))) (8 : Int32).toNatClampNeg (some (K + 94))) (9 : Int32).toNatClampNeg (some (K + 104))) (10 : Int32).toNatClampNeg (some (K + 114))) (11 : Int32).toNatClampNeg (some (K + 124)))))))) H := hat_K7.kept (oq _ (by omega))
  refine W.widen (k := 135) (n := 1037) (Nat.le_of_ble_eq_true rfl) (Nat.le_of_ble_eq_true rfl) ?_
  have hG : rc_G D cy ld t ((K + 134) :: (K + 7) :: K :: a0 :: X) (K + 135) H := hG
  have hat_K134 : va_at D vwCl ((K + 134), .inr (9, [.null, .null, .null, .null, .int 0, .int 0, .int 0, .int 0, .int 0, .int 0, .int 0])) H := hat_n
  refine lv_dup hx hb dX1_init_88 rfl ?_
  have hXX := kc_X9 l D cy ld t ((K + 7) :: K :: a0 :: X) (K + 134) (K + 135) 3 ht134 hs135  (fun q hq => rc_nin (by omega) (rc_nin (by omega) (rc_nin (by omega) (hX q (by omega)))))
  refine rc_I (As := []) (rest := [.ref (K + 134), .int 12, .ref (K + 7)]) (ci := 9) (n1 := (K + 139)) ⟨hx, hb, hml, hown, hts⟩ hK hG hat_K134 hS (fun q h9 => by show _ = _ ∨ _ ≤ _; omega) hXX ⟨callB_of 0 hts (wl_in mw_80) rfl rfl rfl (htl _ mw_76) (htl _ mw_116) hd_yX9_init ⟨(Nat.le_of_ble_eq_true rfl), (Nat.le_of_ble_eq_true rfl)⟩, rfl, htl _ mw_79⟩ rfl hl.1 rfl (Nat.le_of_ble_eq_true rfl) dX1_init_89 ⟨(Nat.le_of_ble_eq_true rfl), (Nat.le_of_ble_eq_true rfl)⟩ (fun H locs hG oq hS => ?_)
  have hat_a0 : va_at D vwCl (a0, .inr (1, [.int 0, .ref a1, .ref a2, .ref K, .ref (K + 1), .int 0, .ref (K + 2), .ref (K + 7), .ref (K + 8), .int 0, .int 0])) H := hat_a0.kept (oq _ (by omega) (by omega))
  have hat_K : va_at D vwCl (K, .inl (cy 3, 16, .inr (.inr (.inr (.inr (va_up (va_up (va_up (va_up (va_up (va_up (va_up (va_up (va_up (va_up (va_up (va_up (va_up (fun _ => none) (0 : Int32).toNatClampNeg (some (K + 9))) (1 : Int32).toNatClampNeg (some (K + 19))) (2 : Int32).toNatClampNeg (some (K + 29))) (3 : Int32).toNatClampNeg (some (K + 39))) (4 : Int32).toNatClampNeg (some (K + 49))) (5 : Int32).toNatClampNeg (some (K + 59))) (6 : Int32).toNatClampNeg (some (K + 69))) (7 : Int32).toNatClampNeg (some (K + 79))) (8 : Int32).toNatClampNeg (some (K + 89))) (9 : Int32).toNatClampNeg (some (K + 99))) (10 : Int32).toNatClampNeg (some (K + 109))) (11 : Int32).toNatClampNeg (some (K + 119))) (12 : Int32).toNatClampNeg (some (K + 129)))))))) H := hat_K.kept (oq _ (by omega) (by omega))
  have hat_K7 : va_at D vwCl ((K + 7), .inl (cy 3, 16, .inr (.inr (.inr (.inr (va_up (va_up (va_up (va_up (va_up (va_up (va_up (va_up (va_up (va_up (va_up (va_up (fun _ => none) (0 : Int32).toNatClampNeg (some (K + 14))) (1 : Int32).toNatClampNeg (some (K + 24))) (2 : Int32).toNatClampNeg (some (K + 34))) (3 : Int32).toNatClampNeg (some (K + 44))) (4 : Int32).toNatClampNeg (some (K + 54))) (5 : Int32).toNatClampNeg (some (K + 64))) (6 : Int32).toNatClampNeg (some (K + 74))) (7 : Int32).toNatClampNeg (some (K + 84))) (8 : Int32).toNatClampNeg (some (K + 94))) (9 : Int32).toNatClampNeg (some (K + 104))) (10 : Int32).toNatClampNeg (some (K + 114))) (11 : Int32).toNatClampNeg (some (K + 124)))))))) H := hat_K7.kept (oq _ (by omega) (by omega))
  refine W.widen (k := 139) (n := 1063) (Nat.le_of_ble_eq_true rfl) (Nat.le_of_ble_eq_true rfl) ?_
  have hG : rc_G D cy ld t ((K + 7) :: K :: a0 :: X) (K + 139) H := hG
  obtain ⟨fs9, hv9, -⟩ := hG.obj (ci := 9) ht134 (by decide) (by omega) (rc_nin (by omega) ( rc_nin (by omega) ( rc_nin (by omega) (hX _ (by omega)))))
  refine rc_aast (ci := 9) (r := (RX9, TX9, 11)) hx hb hK 3 hat_K7 rfl hv9 rfl (fx_in (by decide)) dX1_init_92 (fun H j9 hat_n z9 oq => ?_)
  have hS := hS.put (k := j9) z9 oq (by show _ = _ ∨ _ ≤ _; omega)
  have hat_a0 : va_at D vwCl (a0, .inr (1, [.int 0, .ref a1, .ref a2, .ref K, .ref (K + 1), .int 0, .ref (K + 2), .ref (K + 7), .ref (K + 8), .int 0, .int 0])) H := hat_a0.kept (oq _ (by omega))
  have hat_K : va_at D vwCl (K, .inl (cy 3, 16, .inr (.inr (.inr (.inr (va_up (va_up (va_up (va_up (va_up (va_up (va_up (va_up (va_up (va_up (va_up (va_up (va_up (fun _ => none) (0 : Int32).toNatClampNeg (some (K + 9))) (1 : Int32).toNatClampNeg (some (K + 19))) (2 : Int32).toNatClampNeg (some (K + 29))) (3 : Int32).toNatClampNeg (some (K + 39))) (4 : Int32).toNatClampNeg (some (K + 49))) (5 : Int32).toNatClampNeg (some (K + 59))) (6 : Int32).toNatClampNeg (some (K + 69))) (7 : Int32).toNatClampNeg (some (K + 79))) (8 : Int32).toNatClampNeg (some (K + 89))) (9 : Int32).toNatClampNeg (some (K + 99))) (10 : Int32).toNatClampNeg (some (K + 109))) (11 : Int32).toNatClampNeg (some (K + 119))) (12 : Int32).toNatClampNeg (some (K + 129)))))))) H := hat_K.kept (oq _ (by omega))
  have hat_K7 : va_at D vwCl ((K + 7), .inl (cy 3, 16, .inr (.inr (.inr (.inr (va_up (va_up (va_up (va_up (va_up (va_up (va_up (va_up (va_up (va_up (va_up (va_up (va_up (fun _ => none) (0 : Int32).toNatClampNeg (some (K + 14))) (1 : Int32).toNatClampNeg (some (K + 24))) (2 : Int32).toNatClampNeg (some (K + 34))) (3 : Int32).toNatClampNeg (some (K + 44))) (4 : Int32).toNatClampNeg (some (K + 54))) (5 : Int32).toNatClampNeg (some (K + 64))) (6 : Int32).toNatClampNeg (some (K + 74))) (7 : Int32).toNatClampNeg (some (K + 84))) (8 : Int32).toNatClampNeg (some (K + 94))) (9 : Int32).toNatClampNeg (some (K + 104))) (10 : Int32).toNatClampNeg (some (K + 114))) (11 : Int32).toNatClampNeg (some (K + 124))) (12 : Int32).toNatClampNeg (some (K + 134)))))))) H := hat_n
  have hG : rc_G D cy ld t ((K + 7) :: K :: a0 :: X) (K + 139) H := hG.ajar (by simp) z9 oq
  refine lv_iinc (v := 13) (lv' := [(3, .int 13), (0, .ref a0), (1, .ref a1), (2, .ref a2)]) hx hb dX1_init_93 hl (k := 0) rfl (by decide) (by decide) rfl (fun ls hl => ?_)
  refine lv_goto (tgt := 61) hx hb dX1_init_96 (by decide) ?_
  refine lv_iload_n hx hb dX1_init_61 rfl (lv_at hl 0 rfl) ?_
  refine lv_bipush (v := 16) hx hb dX1_init_62 (by decide) ?_
  refine lv_icmp_ge (tgt := 99) hx hb dX1_init_64 (by decide) (fun c9 => absurd c9 (by decide)) (fun _ => ?_)
  refine lv_aload_n hx hb dX1_init_67 rfl (lv_at hl 1 rfl) ?_
  refine va_get (ci := 1) (C := RX1) (T := TX1) (N := 11) hx hb htl inX1 hown hK.1 (tk_one hat_a0) 0 rfl rfl 3 (by decide) (htl _ mw_109) (fun _ h9 => h9) rfl dX1_init_68 ?_
  refine lv_iload_n hx hb dX1_init_71 rfl (lv_at hl 0 rfl) ?_
  refine rc_new (ci := 9) (fs := [.null, .null, .null, .null, .int 0, .int 0, .int 0, .int 0, .int 0, .int 0, .int 0]) (C := RX9) (T := TX9) (N := 11) hx hb htl inX9 tyX9 tyX9_ok hown (htl _ mw_108) (htl _ mw_75) (htl _ mw_76) hK hG hS rfl dfX9 (Nat.le_of_ble_eq_true rfl) (Nat.le_of_ble_eq_true rfl) dX1_init_72 (fun H hG hat_n oq hS => ?_)
  have hat_a0 : va_at D vwCl (a0, .inr (1, [.int 0, .ref a1, .ref a2, .ref K, .ref (K + 1), .int 0, .ref (K + 2), .ref (K + 7), .ref (K + 8), .int 0, .int 0])) H := hat_a0.kept (oq _ (by omega))
  have hat_K : va_at D vwCl (K, .inl (cy 3, 16, .inr (.inr (.inr (.inr (va_up (va_up (va_up (va_up (va_up (va_up (va_up (va_up (va_up (va_up (va_up (va_up (va_up (fun _ => none) (0 : Int32).toNatClampNeg (some (K + 9))) (1 : Int32).toNatClampNeg (some (K + 19))) (2 : Int32).toNatClampNeg (some (K + 29))) (3 : Int32).toNatClampNeg (some (K + 39))) (4 : Int32).toNatClampNeg (some (K + 49))) (5 : Int32).toNatClampNeg (some (K + 59))) (6 : Int32).toNatClampNeg (some (K + 69))) (7 : Int32).toNatClampNeg (some (K + 79))) (8 : Int32).toNatClampNeg (some (K + 89))) (9 : Int32).toNatClampNeg (some (K + 99))) (10 : Int32).toNatClampNeg (some (K + 109))) (11 : Int32).toNatClampNeg (some (K + 119))) (12 : Int32).toNatClampNeg (some (K + 129)))))))) H := hat_K.kept (oq _ (by omega))
  have hat_K7 : va_at D vwCl ((K + 7), .inl (cy 3, 16, .inr (.inr (.inr (.inr (va_up (va_up (va_up (va_up (va_up (va_up (va_up (va_up (va_up (va_up (va_up (va_up (va_up (fun _ => none) (0 : Int32).toNatClampNeg (some (K + 14))) (1 : Int32).toNatClampNeg (some (K + 24))) (2 : Int32).toNatClampNeg (some (K + 34))) (3 : Int32).toNatClampNeg (some (K + 44))) (4 : Int32).toNatClampNeg (some (K + 54))) (5 : Int32).toNatClampNeg (some (K + 64))) (6 : Int32).toNatClampNeg (some (K + 74))) (7 : Int32).toNatClampNeg (some (K + 84))) (8 : Int32).toNatClampNeg (some (K + 94))) (9 : Int32).toNatClampNeg (some (K + 104))) (10 : Int32).toNatClampNeg (some (K + 114))) (11 : Int32).toNatClampNeg (some (K + 124))) (12 : Int32).toNatClampNeg (some (K + 134)))))))) H := hat_K7.kept (oq _ (by omega))
  refine W.widen (k := 140) (n := 1074) (Nat.le_of_ble_eq_true rfl) (Nat.le_of_ble_eq_true rfl) ?_
  have hG : rc_G D cy ld t ((K + 139) :: (K + 7) :: K :: a0 :: X) (K + 140) H := hG
  have hat_K139 : va_at D vwCl ((K + 139), .inr (9, [.null, .null, .null, .null, .int 0, .int 0, .int 0, .int 0, .int 0, .int 0, .int 0])) H := hat_n
  refine lv_dup hx hb dX1_init_75 rfl ?_
  have hXX := kc_X9 l D cy ld t ((K + 7) :: K :: a0 :: X) (K + 139) (K + 140) 1 ht139 hs140  (fun q hq => rc_nin (by omega) (rc_nin (by omega) (rc_nin (by omega) (hX q (by omega)))))
  refine rc_I (As := []) (rest := [.ref (K + 139), .int 13, .ref K]) (ci := 9) (n1 := (K + 144)) ⟨hx, hb, hml, hown, hts⟩ hK hG hat_K139 hS (fun q h9 => by show _ = _ ∨ _ ≤ _; omega) hXX ⟨callB_of 0 hts (wl_in mw_80) rfl rfl rfl (htl _ mw_76) (htl _ mw_116) hd_yX9_init ⟨(Nat.le_of_ble_eq_true rfl), (Nat.le_of_ble_eq_true rfl)⟩, rfl, htl _ mw_79⟩ rfl hl.1 rfl (Nat.le_of_ble_eq_true rfl) dX1_init_76 ⟨(Nat.le_of_ble_eq_true rfl), (Nat.le_of_ble_eq_true rfl)⟩ (fun H locs hG oq hS => ?_)
  have hat_a0 : va_at D vwCl (a0, .inr (1, [.int 0, .ref a1, .ref a2, .ref K, .ref (K + 1), .int 0, .ref (K + 2), .ref (K + 7), .ref (K + 8), .int 0, .int 0])) H := hat_a0.kept (oq _ (by omega) (by omega))
  have hat_K : va_at D vwCl (K, .inl (cy 3, 16, .inr (.inr (.inr (.inr (va_up (va_up (va_up (va_up (va_up (va_up (va_up (va_up (va_up (va_up (va_up (va_up (va_up (fun _ => none) (0 : Int32).toNatClampNeg (some (K + 9))) (1 : Int32).toNatClampNeg (some (K + 19))) (2 : Int32).toNatClampNeg (some (K + 29))) (3 : Int32).toNatClampNeg (some (K + 39))) (4 : Int32).toNatClampNeg (some (K + 49))) (5 : Int32).toNatClampNeg (some (K + 59))) (6 : Int32).toNatClampNeg (some (K + 69))) (7 : Int32).toNatClampNeg (some (K + 79))) (8 : Int32).toNatClampNeg (some (K + 89))) (9 : Int32).toNatClampNeg (some (K + 99))) (10 : Int32).toNatClampNeg (some (K + 109))) (11 : Int32).toNatClampNeg (some (K + 119))) (12 : Int32).toNatClampNeg (some (K + 129)))))))) H := hat_K.kept (oq _ (by omega) (by omega))
  have hat_K7 : va_at D vwCl ((K + 7), .inl (cy 3, 16, .inr (.inr (.inr (.inr (va_up (va_up (va_up (va_up (va_up (va_up (va_up (va_up (va_up (va_up (va_up (va_up (va_up (fun _ => none) (0 : Int32).toNatClampNeg (some (K + 14))) (1 : Int32).toNatClampNeg (some (K + 24))) (2 : Int32).toNatClampNeg (some (K + 34))) (3 : Int32).toNatClampNeg (some (K + 44))) (4 : Int32).toNatClampNeg (some (K + 54))) (5 : Int32).toNatClampNeg (some (K + 64))) (6 : Int32).toNatClampNeg (some (K + 74))) (7 : Int32).toNatClampNeg (some (K + 84))) (8 : Int32).toNatClampNeg (some (K + 94))) (9 : Int32).toNatClampNeg (some (K + 104))) (10 : Int32).toNatClampNeg (some (K + 114))) (11 : Int32).toNatClampNeg (some (K + 124))) (12 : Int32).toNatClampNeg (some (K + 134)))))))) H := hat_K7.kept (oq _ (by omega) (by omega))
  refine W.widen (k := 144) (n := 1100) (Nat.le_of_ble_eq_true rfl) (Nat.le_of_ble_eq_true rfl) ?_
  have hG : rc_G D cy ld t ((K + 7) :: K :: a0 :: X) (K + 144) H := hG
  obtain ⟨fs9, hv9, -⟩ := hG.obj (ci := 9) ht139 (by decide) (by omega) (rc_nin (by omega) ( rc_nin (by omega) ( rc_nin (by omega) (hX _ (by omega)))))
  refine rc_aast (ci := 9) (r := (RX9, TX9, 11)) hx hb hK 3 hat_K rfl hv9 rfl (fx_in (by decide)) dX1_init_79 (fun H j9 hat_n z9 oq => ?_)
  have hS := hS.put (k := j9) z9 oq (by show _ = _ ∨ _ ≤ _; omega)
  have hat_a0 : va_at D vwCl (a0, .inr (1, [.int 0, .ref a1, .ref a2, .ref K, .ref (K + 1), .int 0, .ref (K + 2), .ref (K + 7), .ref (K + 8), .int 0, .int 0])) H := hat_a0.kept (oq _ (by omega))
  have hat_K7 : va_at D vwCl ((K + 7), .inl (cy 3, 16, .inr (.inr (.inr (.inr (va_up (va_up (va_up (va_up (va_up (va_up (va_up (va_up (va_up (va_up (va_up (va_up (va_up (fun _ => none) (0 : Int32).toNatClampNeg (some (K + 14))) (1 : Int32).toNatClampNeg (some (K + 24))) (2 : Int32).toNatClampNeg (some (K + 34))) (3 : Int32).toNatClampNeg (some (K + 44))) (4 : Int32).toNatClampNeg (some (K + 54))) (5 : Int32).toNatClampNeg (some (K + 64))) (6 : Int32).toNatClampNeg (some (K + 74))) (7 : Int32).toNatClampNeg (some (K + 84))) (8 : Int32).toNatClampNeg (some (K + 94))) (9 : Int32).toNatClampNeg (some (K + 104))) (10 : Int32).toNatClampNeg (some (K + 114))) (11 : Int32).toNatClampNeg (some (K + 124))) (12 : Int32).toNatClampNeg (some (K + 134)))))))) H := hat_K7.kept (oq _ (by omega))
  have hat_K : va_at D vwCl (K, .inl (cy 3, 16, .inr (.inr (.inr (.inr (va_up (va_up (va_up (va_up (va_up (va_up (va_up (va_up (va_up (va_up (va_up (va_up (va_up (va_up (fun _ => none) (0 : Int32).toNatClampNeg (some (K + 9))) (1 : Int32).toNatClampNeg (some (K + 19))) (2 : Int32).toNatClampNeg (some (K + 29))) (3 : Int32).toNatClampNeg (some (K + 39))) (4 : Int32).toNatClampNeg (some (K + 49))) (5 : Int32).toNatClampNeg (some (K + 59))) (6 : Int32).toNatClampNeg (some (K + 69))) (7 : Int32).toNatClampNeg (some (K + 79))) (8 : Int32).toNatClampNeg (some (K + 89))) (9 : Int32).toNatClampNeg (some (K + 99))) (10 : Int32).toNatClampNeg (some (K + 109))) (11 : Int32).toNatClampNeg (some (K + 119))) (12 : Int32).toNatClampNeg (some (K + 129))) (13 : Int32).toNatClampNeg (some (K + 139)))))))) H := hat_n
  have hG : rc_G D cy ld t ((K + 7) :: K :: a0 :: X) (K + 144) H := hG.ajar (by simp) z9 oq
  refine lv_aload_n hx hb dX1_init_80 rfl (lv_at hl 1 rfl) ?_
  refine va_get (ci := 1) (C := RX1) (T := TX1) (N := 11) hx hb htl inX1 hown hK.1 (tk_one hat_a0) 0 rfl rfl 7 (by decide) (htl _ mw_112) (fun _ h9 => h9) rfl dX1_init_81 ?_
  refine lv_iload_n hx hb dX1_init_84 rfl (lv_at hl 0 rfl) ?_
  refine rc_new (ci := 9) (fs := [.null, .null, .null, .null, .int 0, .int 0, .int 0, .int 0, .int 0, .int 0, .int 0]) (C := RX9) (T := TX9) (N := 11) hx hb htl inX9 tyX9 tyX9_ok hown (htl _ mw_108) (htl _ mw_75) (htl _ mw_76) hK hG hS rfl dfX9 (Nat.le_of_ble_eq_true rfl) (Nat.le_of_ble_eq_true rfl) dX1_init_85 (fun H hG hat_n oq hS => ?_)
  have hat_a0 : va_at D vwCl (a0, .inr (1, [.int 0, .ref a1, .ref a2, .ref K, .ref (K + 1), .int 0, .ref (K + 2), .ref (K + 7), .ref (K + 8), .int 0, .int 0])) H := hat_a0.kept (oq _ (by omega))
  have hat_K : va_at D vwCl (K, .inl (cy 3, 16, .inr (.inr (.inr (.inr (va_up (va_up (va_up (va_up (va_up (va_up (va_up (va_up (va_up (va_up (va_up (va_up (va_up (va_up (fun _ => none) (0 : Int32).toNatClampNeg (some (K + 9))) (1 : Int32).toNatClampNeg (some (K + 19))) (2 : Int32).toNatClampNeg (some (K + 29))) (3 : Int32).toNatClampNeg (some (K + 39))) (4 : Int32).toNatClampNeg (some (K + 49))) (5 : Int32).toNatClampNeg (some (K + 59))) (6 : Int32).toNatClampNeg (some (K + 69))) (7 : Int32).toNatClampNeg (some (K + 79))) (8 : Int32).toNatClampNeg (some (K + 89))) (9 : Int32).toNatClampNeg (some (K + 99))) (10 : Int32).toNatClampNeg (some (K + 109))) (11 : Int32).toNatClampNeg (some (K + 119))) (12 : Int32).toNatClampNeg (some (K + 129))) (13 : Int32).toNatClampNeg (some (K + 139)))))))) H := hat_K.kept (oq _ (by omega))
  have hat_K7 : va_at D vwCl ((K + 7), .inl (cy 3, 16, .inr (.inr (.inr (.inr (va_up (va_up (va_up (va_up (va_up (va_up (va_up (va_up (va_up (va_up (va_up (va_up (va_up (fun _ => none) (0 : Int32).toNatClampNeg (some (K + 14))) (1 : Int32).toNatClampNeg (some (K + 24))) (2 : Int32).toNatClampNeg (some (K + 34))) (3 : Int32).toNatClampNeg (some (K + 44))) (4 : Int32).toNatClampNeg (some (K + 54))) (5 : Int32).toNatClampNeg (some (K + 64))) (6 : Int32).toNatClampNeg (some (K + 74))) (7 : Int32).toNatClampNeg (some (K + 84))) (8 : Int32).toNatClampNeg (some (K + 94))) (9 : Int32).toNatClampNeg (some (K + 104))) (10 : Int32).toNatClampNeg (some (K + 114))) (11 : Int32).toNatClampNeg (some (K + 124))) (12 : Int32).toNatClampNeg (some (K + 134)))))))) H := hat_K7.kept (oq _ (by omega))
  refine W.widen (k := 145) (n := 1111) (Nat.le_of_ble_eq_true rfl) (Nat.le_of_ble_eq_true rfl) ?_
  have hG : rc_G D cy ld t ((K + 144) :: (K + 7) :: K :: a0 :: X) (K + 145) H := hG
  have hat_K144 : va_at D vwCl ((K + 144), .inr (9, [.null, .null, .null, .null, .int 0, .int 0, .int 0, .int 0, .int 0, .int 0, .int 0])) H := hat_n
  refine lv_dup hx hb dX1_init_88 rfl ?_
  have hXX := kc_X9 l D cy ld t ((K + 7) :: K :: a0 :: X) (K + 144) (K + 145) 3 ht144 hs145  (fun q hq => rc_nin (by omega) (rc_nin (by omega) (rc_nin (by omega) (hX q (by omega)))))
  refine rc_I (As := []) (rest := [.ref (K + 144), .int 13, .ref (K + 7)]) (ci := 9) (n1 := (K + 149)) ⟨hx, hb, hml, hown, hts⟩ hK hG hat_K144 hS (fun q h9 => by show _ = _ ∨ _ ≤ _; omega) hXX ⟨callB_of 0 hts (wl_in mw_80) rfl rfl rfl (htl _ mw_76) (htl _ mw_116) hd_yX9_init ⟨(Nat.le_of_ble_eq_true rfl), (Nat.le_of_ble_eq_true rfl)⟩, rfl, htl _ mw_79⟩ rfl hl.1 rfl (Nat.le_of_ble_eq_true rfl) dX1_init_89 ⟨(Nat.le_of_ble_eq_true rfl), (Nat.le_of_ble_eq_true rfl)⟩ (fun H locs hG oq hS => ?_)
  have hat_a0 : va_at D vwCl (a0, .inr (1, [.int 0, .ref a1, .ref a2, .ref K, .ref (K + 1), .int 0, .ref (K + 2), .ref (K + 7), .ref (K + 8), .int 0, .int 0])) H := hat_a0.kept (oq _ (by omega) (by omega))
  have hat_K : va_at D vwCl (K, .inl (cy 3, 16, .inr (.inr (.inr (.inr (va_up (va_up (va_up (va_up (va_up (va_up (va_up (va_up (va_up (va_up (va_up (va_up (va_up (va_up (fun _ => none) (0 : Int32).toNatClampNeg (some (K + 9))) (1 : Int32).toNatClampNeg (some (K + 19))) (2 : Int32).toNatClampNeg (some (K + 29))) (3 : Int32).toNatClampNeg (some (K + 39))) (4 : Int32).toNatClampNeg (some (K + 49))) (5 : Int32).toNatClampNeg (some (K + 59))) (6 : Int32).toNatClampNeg (some (K + 69))) (7 : Int32).toNatClampNeg (some (K + 79))) (8 : Int32).toNatClampNeg (some (K + 89))) (9 : Int32).toNatClampNeg (some (K + 99))) (10 : Int32).toNatClampNeg (some (K + 109))) (11 : Int32).toNatClampNeg (some (K + 119))) (12 : Int32).toNatClampNeg (some (K + 129))) (13 : Int32).toNatClampNeg (some (K + 139)))))))) H := hat_K.kept (oq _ (by omega) (by omega))
  have hat_K7 : va_at D vwCl ((K + 7), .inl (cy 3, 16, .inr (.inr (.inr (.inr (va_up (va_up (va_up (va_up (va_up (va_up (va_up (va_up (va_up (va_up (va_up (va_up (va_up (fun _ => none) (0 : Int32).toNatClampNeg (some (K + 14))) (1 : Int32).toNatClampNeg (some (K + 24))) (2 : Int32).toNatClampNeg (some (K + 34))) (3 : Int32).toNatClampNeg (some (K + 44))) (4 : Int32).toNatClampNeg (some (K + 54))) (5 : Int32).toNatClampNeg (some (K + 64))) (6 : Int32).toNatClampNeg (some (K + 74))) (7 : Int32).toNatClampNeg (some (K + 84))) (8 : Int32).toNatClampNeg (some (K + 94))) (9 : Int32).toNatClampNeg (some (K + 104))) (10 : Int32).toNatClampNeg (some (K + 114))) (11 : Int32).toNatClampNeg (some (K + 124))) (12 : Int32).toNatClampNeg (some (K + 134)))))))) H := hat_K7.kept (oq _ (by omega) (by omega))
  refine W.widen (k := 149) (n := 1137) (Nat.le_of_ble_eq_true rfl) (Nat.le_of_ble_eq_true rfl) ?_
  have hG : rc_G D cy ld t ((K + 7) :: K :: a0 :: X) (K + 149) H := hG
  obtain ⟨fs9, hv9, -⟩ := hG.obj (ci := 9) ht144 (by decide) (by omega) (rc_nin (by omega) ( rc_nin (by omega) ( rc_nin (by omega) (hX _ (by omega)))))
  refine rc_aast (ci := 9) (r := (RX9, TX9, 11)) hx hb hK 3 hat_K7 rfl hv9 rfl (fx_in (by decide)) dX1_init_92 (fun H j9 hat_n z9 oq => ?_)
  have hS := hS.put (k := j9) z9 oq (by show _ = _ ∨ _ ≤ _; omega)
  have hat_a0 : va_at D vwCl (a0, .inr (1, [.int 0, .ref a1, .ref a2, .ref K, .ref (K + 1), .int 0, .ref (K + 2), .ref (K + 7), .ref (K + 8), .int 0, .int 0])) H := hat_a0.kept (oq _ (by omega))
  have hat_K : va_at D vwCl (K, .inl (cy 3, 16, .inr (.inr (.inr (.inr (va_up (va_up (va_up (va_up (va_up (va_up (va_up (va_up (va_up (va_up (va_up (va_up (va_up (va_up (fun _ => none) (0 : Int32).toNatClampNeg (some (K + 9))) (1 : Int32).toNatClampNeg (some (K + 19))) (2 : Int32).toNatClampNeg (some (K + 29))) (3 : Int32).toNatClampNeg (some (K + 39))) (4 : Int32).toNatClampNeg (some (K + 49))) (5 : Int32).toNatClampNeg (some (K + 59))) (6 : Int32).toNatClampNeg (some (K + 69))) (7 : Int32).toNatClampNeg (some (K + 79))) (8 : Int32).toNatClampNeg (some (K + 89))) (9 : Int32).toNatClampNeg (some (K + 99))) (10 : Int32).toNatClampNeg (some (K + 109))) (11 : Int32).toNatClampNeg (some (K + 119))) (12 : Int32).toNatClampNeg (some (K + 129))) (13 : Int32).toNatClampNeg (some (K + 139)))))))) H := hat_K.kept (oq _ (by omega))
  have hat_K7 : va_at D vwCl ((K + 7), .inl (cy 3, 16, .inr (.inr (.inr (.inr (va_up (va_up (va_up (va_up (va_up (va_up (va_up (va_up (va_up (va_up (va_up (va_up (va_up (va_up (fun _ => none) (0 : Int32).toNatClampNeg (some (K + 14))) (1 : Int32).toNatClampNeg (some (K + 24))) (2 : Int32).toNatClampNeg (some (K + 34))) (3 : Int32).toNatClampNeg (some (K + 44))) (4 : Int32).toNatClampNeg (some (K + 54))) (5 : Int32).toNatClampNeg (some (K + 64))) (6 : Int32).toNatClampNeg (some (K + 74))) (7 : Int32).toNatClampNeg (some (K + 84))) (8 : Int32).toNatClampNeg (some (K + 94))) (9 : Int32).toNatClampNeg (some (K + 104))) (10 : Int32).toNatClampNeg (some (K + 114))) (11 : Int32).toNatClampNeg (some (K + 124))) (12 : Int32).toNatClampNeg (some (K + 134))) (13 : Int32).toNatClampNeg (some (K + 144)))))))) H := hat_n
  have hG : rc_G D cy ld t ((K + 7) :: K :: a0 :: X) (K + 149) H := hG.ajar (by simp) z9 oq
  refine lv_iinc (v := 14) (lv' := [(3, .int 14), (0, .ref a0), (1, .ref a1), (2, .ref a2)]) hx hb dX1_init_93 hl (k := 0) rfl (by decide) (by decide) rfl (fun ls hl => ?_)
  refine lv_goto (tgt := 61) hx hb dX1_init_96 (by decide) ?_
  refine lv_iload_n hx hb dX1_init_61 rfl (lv_at hl 0 rfl) ?_
  refine lv_bipush (v := 16) hx hb dX1_init_62 (by decide) ?_
  refine lv_icmp_ge (tgt := 99) hx hb dX1_init_64 (by decide) (fun c9 => absurd c9 (by decide)) (fun _ => ?_)
  refine lv_aload_n hx hb dX1_init_67 rfl (lv_at hl 1 rfl) ?_
  refine va_get (ci := 1) (C := RX1) (T := TX1) (N := 11) hx hb htl inX1 hown hK.1 (tk_one hat_a0) 0 rfl rfl 3 (by decide) (htl _ mw_109) (fun _ h9 => h9) rfl dX1_init_68 ?_
  refine lv_iload_n hx hb dX1_init_71 rfl (lv_at hl 0 rfl) ?_
  refine rc_new (ci := 9) (fs := [.null, .null, .null, .null, .int 0, .int 0, .int 0, .int 0, .int 0, .int 0, .int 0]) (C := RX9) (T := TX9) (N := 11) hx hb htl inX9 tyX9 tyX9_ok hown (htl _ mw_108) (htl _ mw_75) (htl _ mw_76) hK hG hS rfl dfX9 (Nat.le_of_ble_eq_true rfl) (Nat.le_of_ble_eq_true rfl) dX1_init_72 (fun H hG hat_n oq hS => ?_)
  have hat_a0 : va_at D vwCl (a0, .inr (1, [.int 0, .ref a1, .ref a2, .ref K, .ref (K + 1), .int 0, .ref (K + 2), .ref (K + 7), .ref (K + 8), .int 0, .int 0])) H := hat_a0.kept (oq _ (by omega))
  have hat_K : va_at D vwCl (K, .inl (cy 3, 16, .inr (.inr (.inr (.inr (va_up (va_up (va_up (va_up (va_up (va_up (va_up (va_up (va_up (va_up (va_up (va_up (va_up (va_up (fun _ => none) (0 : Int32).toNatClampNeg (some (K + 9))) (1 : Int32).toNatClampNeg (some (K + 19))) (2 : Int32).toNatClampNeg (some (K + 29))) (3 : Int32).toNatClampNeg (some (K + 39))) (4 : Int32).toNatClampNeg (some (K + 49))) (5 : Int32).toNatClampNeg (some (K + 59))) (6 : Int32).toNatClampNeg (some (K + 69))) (7 : Int32).toNatClampNeg (some (K + 79))) (8 : Int32).toNatClampNeg (some (K + 89))) (9 : Int32).toNatClampNeg (some (K + 99))) (10 : Int32).toNatClampNeg (some (K + 109))) (11 : Int32).toNatClampNeg (some (K + 119))) (12 : Int32).toNatClampNeg (some (K + 129))) (13 : Int32).toNatClampNeg (some (K + 139)))))))) H := hat_K.kept (oq _ (by omega))
  have hat_K7 : va_at D vwCl ((K + 7), .inl (cy 3, 16, .inr (.inr (.inr (.inr (va_up (va_up (va_up (va_up (va_up (va_up (va_up (va_up (va_up (va_up (va_up (va_up (va_up (va_up (fun _ => none) (0 : Int32).toNatClampNeg (some (K + 14))) (1 : Int32).toNatClampNeg (some (K + 24))) (2 : Int32).toNatClampNeg (some (K + 34))) (3 : Int32).toNatClampNeg (some (K + 44))) (4 : Int32).toNatClampNeg (some (K + 54))) (5 : Int32).toNatClampNeg (some (K + 64))) (6 : Int32).toNatClampNeg (some (K + 74))) (7 : Int32).toNatClampNeg (some (K + 84))) (8 : Int32).toNatClampNeg (some (K + 94))) (9 : Int32).toNatClampNeg (some (K + 104))) (10 : Int32).toNatClampNeg (some (K + 114))) (11 : Int32).toNatClampNeg (some (K + 124))) (12 : Int32).toNatClampNeg (some (K + 134))) (13 : Int32).toNatClampNeg (some (K + 144)))))))) H := hat_K7.kept (oq _ (by omega))
  refine W.widen (k := 150) (n := 1148) (Nat.le_of_ble_eq_true rfl) (Nat.le_of_ble_eq_true rfl) ?_
  have hG : rc_G D cy ld t ((K + 149) :: (K + 7) :: K :: a0 :: X) (K + 150) H := hG
  have hat_K149 : va_at D vwCl ((K + 149), .inr (9, [.null, .null, .null, .null, .int 0, .int 0, .int 0, .int 0, .int 0, .int 0, .int 0])) H := hat_n
  refine lv_dup hx hb dX1_init_75 rfl ?_
  have hXX := kc_X9 l D cy ld t ((K + 7) :: K :: a0 :: X) (K + 149) (K + 150) 1 ht149 hs150  (fun q hq => rc_nin (by omega) (rc_nin (by omega) (rc_nin (by omega) (hX q (by omega)))))
  refine rc_I (As := []) (rest := [.ref (K + 149), .int 14, .ref K]) (ci := 9) (n1 := (K + 154)) ⟨hx, hb, hml, hown, hts⟩ hK hG hat_K149 hS (fun q h9 => by show _ = _ ∨ _ ≤ _; omega) hXX ⟨callB_of 0 hts (wl_in mw_80) rfl rfl rfl (htl _ mw_76) (htl _ mw_116) hd_yX9_init ⟨(Nat.le_of_ble_eq_true rfl), (Nat.le_of_ble_eq_true rfl)⟩, rfl, htl _ mw_79⟩ rfl hl.1 rfl (Nat.le_of_ble_eq_true rfl) dX1_init_76 ⟨(Nat.le_of_ble_eq_true rfl), (Nat.le_of_ble_eq_true rfl)⟩ (fun H locs hG oq hS => ?_)
  have hat_a0 : va_at D vwCl (a0, .inr (1, [.int 0, .ref a1, .ref a2, .ref K, .ref (K + 1), .int 0, .ref (K + 2), .ref (K + 7), .ref (K + 8), .int 0, .int 0])) H := hat_a0.kept (oq _ (by omega) (by omega))
  have hat_K : va_at D vwCl (K, .inl (cy 3, 16, .inr (.inr (.inr (.inr (va_up (va_up (va_up (va_up (va_up (va_up (va_up (va_up (va_up (va_up (va_up (va_up (va_up (va_up (fun _ => none) (0 : Int32).toNatClampNeg (some (K + 9))) (1 : Int32).toNatClampNeg (some (K + 19))) (2 : Int32).toNatClampNeg (some (K + 29))) (3 : Int32).toNatClampNeg (some (K + 39))) (4 : Int32).toNatClampNeg (some (K + 49))) (5 : Int32).toNatClampNeg (some (K + 59))) (6 : Int32).toNatClampNeg (some (K + 69))) (7 : Int32).toNatClampNeg (some (K + 79))) (8 : Int32).toNatClampNeg (some (K + 89))) (9 : Int32).toNatClampNeg (some (K + 99))) (10 : Int32).toNatClampNeg (some (K + 109))) (11 : Int32).toNatClampNeg (some (K + 119))) (12 : Int32).toNatClampNeg (some (K + 129))) (13 : Int32).toNatClampNeg (some (K + 139)))))))) H := hat_K.kept (oq _ (by omega) (by omega))
  have hat_K7 : va_at D vwCl ((K + 7), .inl (cy 3, 16, .inr (.inr (.inr (.inr (va_up (va_up (va_up (va_up (va_up (va_up (va_up (va_up (va_up (va_up (va_up (va_up (va_up (va_up (fun _ => none) (0 : Int32).toNatClampNeg (some (K + 14))) (1 : Int32).toNatClampNeg (some (K + 24))) (2 : Int32).toNatClampNeg (some (K + 34))) (3 : Int32).toNatClampNeg (some (K + 44))) (4 : Int32).toNatClampNeg (some (K + 54))) (5 : Int32).toNatClampNeg (some (K + 64))) (6 : Int32).toNatClampNeg (some (K + 74))) (7 : Int32).toNatClampNeg (some (K + 84))) (8 : Int32).toNatClampNeg (some (K + 94))) (9 : Int32).toNatClampNeg (some (K + 104))) (10 : Int32).toNatClampNeg (some (K + 114))) (11 : Int32).toNatClampNeg (some (K + 124))) (12 : Int32).toNatClampNeg (some (K + 134))) (13 : Int32).toNatClampNeg (some (K + 144)))))))) H := hat_K7.kept (oq _ (by omega) (by omega))
  refine W.widen (k := 154) (n := 1174) (Nat.le_of_ble_eq_true rfl) (Nat.le_of_ble_eq_true rfl) ?_
  have hG : rc_G D cy ld t ((K + 7) :: K :: a0 :: X) (K + 154) H := hG
  obtain ⟨fs9, hv9, -⟩ := hG.obj (ci := 9) ht149 (by decide) (by omega) (rc_nin (by omega) ( rc_nin (by omega) ( rc_nin (by omega) (hX _ (by omega)))))
  refine rc_aast (ci := 9) (r := (RX9, TX9, 11)) hx hb hK 3 hat_K rfl hv9 rfl (fx_in (by decide)) dX1_init_79 (fun H j9 hat_n z9 oq => ?_)
  have hS := hS.put (k := j9) z9 oq (by show _ = _ ∨ _ ≤ _; omega)
  have hat_a0 : va_at D vwCl (a0, .inr (1, [.int 0, .ref a1, .ref a2, .ref K, .ref (K + 1), .int 0, .ref (K + 2), .ref (K + 7), .ref (K + 8), .int 0, .int 0])) H := hat_a0.kept (oq _ (by omega))
  have hat_K7 : va_at D vwCl ((K + 7), .inl (cy 3, 16, .inr (.inr (.inr (.inr (va_up (va_up (va_up (va_up (va_up (va_up (va_up (va_up (va_up (va_up (va_up (va_up (va_up (va_up (fun _ => none) (0 : Int32).toNatClampNeg (some (K + 14))) (1 : Int32).toNatClampNeg (some (K + 24))) (2 : Int32).toNatClampNeg (some (K + 34))) (3 : Int32).toNatClampNeg (some (K + 44))) (4 : Int32).toNatClampNeg (some (K + 54))) (5 : Int32).toNatClampNeg (some (K + 64))) (6 : Int32).toNatClampNeg (some (K + 74))) (7 : Int32).toNatClampNeg (some (K + 84))) (8 : Int32).toNatClampNeg (some (K + 94))) (9 : Int32).toNatClampNeg (some (K + 104))) (10 : Int32).toNatClampNeg (some (K + 114))) (11 : Int32).toNatClampNeg (some (K + 124))) (12 : Int32).toNatClampNeg (some (K + 134))) (13 : Int32).toNatClampNeg (some (K + 144)))))))) H := hat_K7.kept (oq _ (by omega))
  have hat_K : va_at D vwCl (K, .inl (cy 3, 16, .inr (.inr (.inr (.inr (va_up (va_up (va_up (va_up (va_up (va_up (va_up (va_up (va_up (va_up (va_up (va_up (va_up (va_up (va_up (fun _ => none) (0 : Int32).toNatClampNeg (some (K + 9))) (1 : Int32).toNatClampNeg (some (K + 19))) (2 : Int32).toNatClampNeg (some (K + 29))) (3 : Int32).toNatClampNeg (some (K + 39))) (4 : Int32).toNatClampNeg (some (K + 49))) (5 : Int32).toNatClampNeg (some (K + 59))) (6 : Int32).toNatClampNeg (some (K + 69))) (7 : Int32).toNatClampNeg (some (K + 79))) (8 : Int32).toNatClampNeg (some (K + 89))) (9 : Int32).toNatClampNeg (some (K + 99))) (10 : Int32).toNatClampNeg (some (K + 109))) (11 : Int32).toNatClampNeg (some (K + 119))) (12 : Int32).toNatClampNeg (some (K + 129))) (13 : Int32).toNatClampNeg (some (K + 139))) (14 : Int32).toNatClampNeg (some (K + 149)))))))) H := hat_n
  have hG : rc_G D cy ld t ((K + 7) :: K :: a0 :: X) (K + 154) H := hG.ajar (by simp) z9 oq
  refine lv_aload_n hx hb dX1_init_80 rfl (lv_at hl 1 rfl) ?_
  refine va_get (ci := 1) (C := RX1) (T := TX1) (N := 11) hx hb htl inX1 hown hK.1 (tk_one hat_a0) 0 rfl rfl 7 (by decide) (htl _ mw_112) (fun _ h9 => h9) rfl dX1_init_81 ?_
  refine lv_iload_n hx hb dX1_init_84 rfl (lv_at hl 0 rfl) ?_
  refine rc_new (ci := 9) (fs := [.null, .null, .null, .null, .int 0, .int 0, .int 0, .int 0, .int 0, .int 0, .int 0]) (C := RX9) (T := TX9) (N := 11) hx hb htl inX9 tyX9 tyX9_ok hown (htl _ mw_108) (htl _ mw_75) (htl _ mw_76) hK hG hS rfl dfX9 (Nat.le_of_ble_eq_true rfl) (Nat.le_of_ble_eq_true rfl) dX1_init_85 (fun H hG hat_n oq hS => ?_)
  have hat_a0 : va_at D vwCl (a0, .inr (1, [.int 0, .ref a1, .ref a2, .ref K, .ref (K + 1), .int 0, .ref (K + 2), .ref (K + 7), .ref (K + 8), .int 0, .int 0])) H := hat_a0.kept (oq _ (by omega))
  have hat_K : va_at D vwCl (K, .inl (cy 3, 16, .inr (.inr (.inr (.inr (va_up (va_up (va_up (va_up (va_up (va_up (va_up (va_up (va_up (va_up (va_up (va_up (va_up (va_up (va_up (fun _ => none) (0 : Int32).toNatClampNeg (some (K + 9))) (1 : Int32).toNatClampNeg (some (K + 19))) (2 : Int32).toNatClampNeg (some (K + 29))) (3 : Int32).toNatClampNeg (some (K + 39))) (4 : Int32).toNatClampNeg (some (K + 49))) (5 : Int32).toNatClampNeg (some (K + 59))) (6 : Int32).toNatClampNeg (some (K + 69))) (7 : Int32).toNatClampNeg (some (K + 79))) (8 : Int32).toNatClampNeg (some (K + 89))) (9 : Int32).toNatClampNeg (some (K + 99))) (10 : Int32).toNatClampNeg (some (K + 109))) (11 : Int32).toNatClampNeg (some (K + 119))) (12 : Int32).toNatClampNeg (some (K + 129))) (13 : Int32).toNatClampNeg (some (K + 139))) (14 : Int32).toNatClampNeg (some (K + 149)))))))) H := hat_K.kept (oq _ (by omega))
  have hat_K7 : va_at D vwCl ((K + 7), .inl (cy 3, 16, .inr (.inr (.inr (.inr (va_up (va_up (va_up (va_up (va_up (va_up (va_up (va_up (va_up (va_up (va_up (va_up (va_up (va_up (fun _ => none) (0 : Int32).toNatClampNeg (some (K + 14))) (1 : Int32).toNatClampNeg (some (K + 24))) (2 : Int32).toNatClampNeg (some (K + 34))) (3 : Int32).toNatClampNeg (some (K + 44))) (4 : Int32).toNatClampNeg (some (K + 54))) (5 : Int32).toNatClampNeg (some (K + 64))) (6 : Int32).toNatClampNeg (some (K + 74))) (7 : Int32).toNatClampNeg (some (K + 84))) (8 : Int32).toNatClampNeg (some (K + 94))) (9 : Int32).toNatClampNeg (some (K + 104))) (10 : Int32).toNatClampNeg (some (K + 114))) (11 : Int32).toNatClampNeg (some (K + 124))) (12 : Int32).toNatClampNeg (some (K + 134))) (13 : Int32).toNatClampNeg (some (K + 144)))))))) H := hat_K7.kept (oq _ (by omega))
  refine W.widen (k := 155) (n := 1185) (Nat.le_of_ble_eq_true rfl) (Nat.le_of_ble_eq_true rfl) ?_
  have hG : rc_G D cy ld t ((K + 154) :: (K + 7) :: K :: a0 :: X) (K + 155) H := hG
  have hat_K154 : va_at D vwCl ((K + 154), .inr (9, [.null, .null, .null, .null, .int 0, .int 0, .int 0, .int 0, .int 0, .int 0, .int 0])) H := hat_n
  refine lv_dup hx hb dX1_init_88 rfl ?_
  have hXX := kc_X9 l D cy ld t ((K + 7) :: K :: a0 :: X) (K + 154) (K + 155) 3 ht154 hs155  (fun q hq => rc_nin (by omega) (rc_nin (by omega) (rc_nin (by omega) (hX q (by omega)))))
  refine rc_I (As := []) (rest := [.ref (K + 154), .int 14, .ref (K + 7)]) (ci := 9) (n1 := (K + 159)) ⟨hx, hb, hml, hown, hts⟩ hK hG hat_K154 hS (fun q h9 => by show _ = _ ∨ _ ≤ _; omega) hXX ⟨callB_of 0 hts (wl_in mw_80) rfl rfl rfl (htl _ mw_76) (htl _ mw_116) hd_yX9_init ⟨(Nat.le_of_ble_eq_true rfl), (Nat.le_of_ble_eq_true rfl)⟩, rfl, htl _ mw_79⟩ rfl hl.1 rfl (Nat.le_of_ble_eq_true rfl) dX1_init_89 ⟨(Nat.le_of_ble_eq_true rfl), (Nat.le_of_ble_eq_true rfl)⟩ (fun H locs hG oq hS => ?_)
  have hat_a0 : va_at D vwCl (a0, .inr (1, [.int 0, .ref a1, .ref a2, .ref K, .ref (K + 1), .int 0, .ref (K + 2), .ref (K + 7), .ref (K + 8), .int 0, .int 0])) H := hat_a0.kept (oq _ (by omega) (by omega))
  have hat_K : va_at D vwCl (K, .inl (cy 3, 16, .inr (.inr (.inr (.inr (va_up (va_up (va_up (va_up (va_up (va_up (va_up (va_up (va_up (va_up (va_up (va_up (va_up (va_up (va_up (fun _ => none) (0 : Int32).toNatClampNeg (some (K + 9))) (1 : Int32).toNatClampNeg (some (K + 19))) (2 : Int32).toNatClampNeg (some (K + 29))) (3 : Int32).toNatClampNeg (some (K + 39))) (4 : Int32).toNatClampNeg (some (K + 49))) (5 : Int32).toNatClampNeg (some (K + 59))) (6 : Int32).toNatClampNeg (some (K + 69))) (7 : Int32).toNatClampNeg (some (K + 79))) (8 : Int32).toNatClampNeg (some (K + 89))) (9 : Int32).toNatClampNeg (some (K + 99))) (10 : Int32).toNatClampNeg (some (K + 109))) (11 : Int32).toNatClampNeg (some (K + 119))) (12 : Int32).toNatClampNeg (some (K + 129))) (13 : Int32).toNatClampNeg (some (K + 139))) (14 : Int32).toNatClampNeg (some (K + 149)))))))) H := hat_K.kept (oq _ (by omega) (by omega))
  have hat_K7 : va_at D vwCl ((K + 7), .inl (cy 3, 16, .inr (.inr (.inr (.inr (va_up (va_up (va_up (va_up (va_up (va_up (va_up (va_up (va_up (va_up (va_up (va_up (va_up (va_up (fun _ => none) (0 : Int32).toNatClampNeg (some (K + 14))) (1 : Int32).toNatClampNeg (some (K + 24))) (2 : Int32).toNatClampNeg (some (K + 34))) (3 : Int32).toNatClampNeg (some (K + 44))) (4 : Int32).toNatClampNeg (some (K + 54))) (5 : Int32).toNatClampNeg (some (K + 64))) (6 : Int32).toNatClampNeg (some (K + 74))) (7 : Int32).toNatClampNeg (some (K + 84))) (8 : Int32).toNatClampNeg (some (K + 94))) (9 : Int32).toNatClampNeg (some (K + 104))) (10 : Int32).toNatClampNeg (some (K + 114))) (11 : Int32).toNatClampNeg (some (K + 124))) (12 : Int32).toNatClampNeg (some (K + 134))) (13 : Int32).toNatClampNeg (some (K + 144)))))))) H := hat_K7.kept (oq _ (by omega) (by omega))
  refine W.widen (k := 159) (n := 1211) (Nat.le_of_ble_eq_true rfl) (Nat.le_of_ble_eq_true rfl) ?_
  have hG : rc_G D cy ld t ((K + 7) :: K :: a0 :: X) (K + 159) H := hG
  obtain ⟨fs9, hv9, -⟩ := hG.obj (ci := 9) ht154 (by decide) (by omega) (rc_nin (by omega) ( rc_nin (by omega) ( rc_nin (by omega) (hX _ (by omega)))))
  refine rc_aast (ci := 9) (r := (RX9, TX9, 11)) hx hb hK 3 hat_K7 rfl hv9 rfl (fx_in (by decide)) dX1_init_92 (fun H j9 hat_n z9 oq => ?_)
  have hS := hS.put (k := j9) z9 oq (by show _ = _ ∨ _ ≤ _; omega)
  have hat_a0 : va_at D vwCl (a0, .inr (1, [.int 0, .ref a1, .ref a2, .ref K, .ref (K + 1), .int 0, .ref (K + 2), .ref (K + 7), .ref (K + 8), .int 0, .int 0])) H := hat_a0.kept (oq _ (by omega))
  have hat_K : va_at D vwCl (K, .inl (cy 3, 16, .inr (.inr (.inr (.inr (va_up (va_up (va_up (va_up (va_up (va_up (va_up (va_up (va_up (va_up (va_up (va_up (va_up (va_up (va_up (fun _ => none) (0 : Int32).toNatClampNeg (some (K + 9))) (1 : Int32).toNatClampNeg (some (K + 19))) (2 : Int32).toNatClampNeg (some (K + 29))) (3 : Int32).toNatClampNeg (some (K + 39))) (4 : Int32).toNatClampNeg (some (K + 49))) (5 : Int32).toNatClampNeg (some (K + 59))) (6 : Int32).toNatClampNeg (some (K + 69))) (7 : Int32).toNatClampNeg (some (K + 79))) (8 : Int32).toNatClampNeg (some (K + 89))) (9 : Int32).toNatClampNeg (some (K + 99))) (10 : Int32).toNatClampNeg (some (K + 109))) (11 : Int32).toNatClampNeg (some (K + 119))) (12 : Int32).toNatClampNeg (some (K + 129))) (13 : Int32).toNatClampNeg (some (K + 139))) (14 : Int32).toNatClampNeg (some (K + 149)))))))) H := hat_K.kept (oq _ (by omega))
  have hat_K7 : va_at D vwCl ((K + 7), .inl (cy 3, 16, .inr (.inr (.inr (.inr (va_up (va_up (va_up (va_up (va_up (va_up (va_up (va_up (va_up (va_up (va_up (va_up (va_up (va_up (va_up (fun _ => none) (0 : Int32).toNatClampNeg (some (K + 14))) (1 : Int32).toNatClampNeg (some (K + 24))) (2 : Int32).toNatClampNeg (some (K + 34))) (3 : Int32).toNatClampNeg (some (K + 44))) (4 : Int32).toNatClampNeg (some (K + 54))) (5 : Int32).toNatClampNeg (some (K + 64))) (6 : Int32).toNatClampNeg (some (K + 74))) (7 : Int32).toNatClampNeg (some (K + 84))) (8 : Int32).toNatClampNeg (some (K + 94))) (9 : Int32).toNatClampNeg (some (K + 104))) (10 : Int32).toNatClampNeg (some (K + 114))) (11 : Int32).toNatClampNeg (some (K + 124))) (12 : Int32).toNatClampNeg (some (K + 134))) (13 : Int32).toNatClampNeg (some (K + 144))) (14 : Int32).toNatClampNeg (some (K + 154)))))))) H := hat_n
  have hG : rc_G D cy ld t ((K + 7) :: K :: a0 :: X) (K + 159) H := hG.ajar (by simp) z9 oq
  refine lv_iinc (v := 15) (lv' := [(3, .int 15), (0, .ref a0), (1, .ref a1), (2, .ref a2)]) hx hb dX1_init_93 hl (k := 0) rfl (by decide) (by decide) rfl (fun ls hl => ?_)
  refine lv_goto (tgt := 61) hx hb dX1_init_96 (by decide) ?_
  refine lv_iload_n hx hb dX1_init_61 rfl (lv_at hl 0 rfl) ?_
  refine lv_bipush (v := 16) hx hb dX1_init_62 (by decide) ?_
  refine lv_icmp_ge (tgt := 99) hx hb dX1_init_64 (by decide) (fun c9 => absurd c9 (by decide)) (fun _ => ?_)
  refine lv_aload_n hx hb dX1_init_67 rfl (lv_at hl 1 rfl) ?_
  refine va_get (ci := 1) (C := RX1) (T := TX1) (N := 11) hx hb htl inX1 hown hK.1 (tk_one hat_a0) 0 rfl rfl 3 (by decide) (htl _ mw_109) (fun _ h9 => h9) rfl dX1_init_68 ?_
  refine lv_iload_n hx hb dX1_init_71 rfl (lv_at hl 0 rfl) ?_
  refine rc_new (ci := 9) (fs := [.null, .null, .null, .null, .int 0, .int 0, .int 0, .int 0, .int 0, .int 0, .int 0]) (C := RX9) (T := TX9) (N := 11) hx hb htl inX9 tyX9 tyX9_ok hown (htl _ mw_108) (htl _ mw_75) (htl _ mw_76) hK hG hS rfl dfX9 (Nat.le_of_ble_eq_true rfl) (Nat.le_of_ble_eq_true rfl) dX1_init_72 (fun H hG hat_n oq hS => ?_)
  have hat_a0 : va_at D vwCl (a0, .inr (1, [.int 0, .ref a1, .ref a2, .ref K, .ref (K + 1), .int 0, .ref (K + 2), .ref (K + 7), .ref (K + 8), .int 0, .int 0])) H := hat_a0.kept (oq _ (by omega))
  have hat_K : va_at D vwCl (K, .inl (cy 3, 16, .inr (.inr (.inr (.inr (va_up (va_up (va_up (va_up (va_up (va_up (va_up (va_up (va_up (va_up (va_up (va_up (va_up (va_up (va_up (fun _ => none) (0 : Int32).toNatClampNeg (some (K + 9))) (1 : Int32).toNatClampNeg (some (K + 19))) (2 : Int32).toNatClampNeg (some (K + 29))) (3 : Int32).toNatClampNeg (some (K + 39))) (4 : Int32).toNatClampNeg (some (K + 49))) (5 : Int32).toNatClampNeg (some (K + 59))) (6 : Int32).toNatClampNeg (some (K + 69))) (7 : Int32).toNatClampNeg (some (K + 79))) (8 : Int32).toNatClampNeg (some (K + 89))) (9 : Int32).toNatClampNeg (some (K + 99))) (10 : Int32).toNatClampNeg (some (K + 109))) (11 : Int32).toNatClampNeg (some (K + 119))) (12 : Int32).toNatClampNeg (some (K + 129))) (13 : Int32).toNatClampNeg (some (K + 139))) (14 : Int32).toNatClampNeg (some (K + 149)))))))) H := hat_K.kept (oq _ (by omega))
  have hat_K7 : va_at D vwCl ((K + 7), .inl (cy 3, 16, .inr (.inr (.inr (.inr (va_up (va_up (va_up (va_up (va_up (va_up (va_up (va_up (va_up (va_up (va_up (va_up (va_up (va_up (va_up (fun _ => none) (0 : Int32).toNatClampNeg (some (K + 14))) (1 : Int32).toNatClampNeg (some (K + 24))) (2 : Int32).toNatClampNeg (some (K + 34))) (3 : Int32).toNatClampNeg (some (K + 44))) (4 : Int32).toNatClampNeg (some (K + 54))) (5 : Int32).toNatClampNeg (some (K + 64))) (6 : Int32).toNatClampNeg (some (K + 74))) (7 : Int32).toNatClampNeg (some (K + 84))) (8 : Int32).toNatClampNeg (some (K + 94))) (9 : Int32).toNatClampNeg (some (K + 104))) (10 : Int32).toNatClampNeg (some (K + 114))) (11 : Int32).toNatClampNeg (some (K + 124))) (12 : Int32).toNatClampNeg (some (K + 134))) (13 : Int32).toNatClampNeg (some (K + 144))) (14 : Int32).toNatClampNeg (some (K + 154)))))))) H := hat_K7.kept (oq _ (by omega))
  refine W.widen (k := 160) (n := 1222) (Nat.le_of_ble_eq_true rfl) (Nat.le_of_ble_eq_true rfl) ?_
  have hG : rc_G D cy ld t ((K + 159) :: (K + 7) :: K :: a0 :: X) (K + 160) H := hG
  have hat_K159 : va_at D vwCl ((K + 159), .inr (9, [.null, .null, .null, .null, .int 0, .int 0, .int 0, .int 0, .int 0, .int 0, .int 0])) H := hat_n
  refine lv_dup hx hb dX1_init_75 rfl ?_
  have hXX := kc_X9 l D cy ld t ((K + 7) :: K :: a0 :: X) (K + 159) (K + 160) 1 ht159 hs160  (fun q hq => rc_nin (by omega) (rc_nin (by omega) (rc_nin (by omega) (hX q (by omega)))))
  refine rc_I (As := []) (rest := [.ref (K + 159), .int 15, .ref K]) (ci := 9) (n1 := (K + 164)) ⟨hx, hb, hml, hown, hts⟩ hK hG hat_K159 hS (fun q h9 => by show _ = _ ∨ _ ≤ _; omega) hXX ⟨callB_of 0 hts (wl_in mw_80) rfl rfl rfl (htl _ mw_76) (htl _ mw_116) hd_yX9_init ⟨(Nat.le_of_ble_eq_true rfl), (Nat.le_of_ble_eq_true rfl)⟩, rfl, htl _ mw_79⟩ rfl hl.1 rfl (Nat.le_of_ble_eq_true rfl) dX1_init_76 ⟨(Nat.le_of_ble_eq_true rfl), (Nat.le_of_ble_eq_true rfl)⟩ (fun H locs hG oq hS => ?_)
  have hat_a0 : va_at D vwCl (a0, .inr (1, [.int 0, .ref a1, .ref a2, .ref K, .ref (K + 1), .int 0, .ref (K + 2), .ref (K + 7), .ref (K + 8), .int 0, .int 0])) H := hat_a0.kept (oq _ (by omega) (by omega))
  have hat_K : va_at D vwCl (K, .inl (cy 3, 16, .inr (.inr (.inr (.inr (va_up (va_up (va_up (va_up (va_up (va_up (va_up (va_up (va_up (va_up (va_up (va_up (va_up (va_up (va_up (fun _ => none) (0 : Int32).toNatClampNeg (some (K + 9))) (1 : Int32).toNatClampNeg (some (K + 19))) (2 : Int32).toNatClampNeg (some (K + 29))) (3 : Int32).toNatClampNeg (some (K + 39))) (4 : Int32).toNatClampNeg (some (K + 49))) (5 : Int32).toNatClampNeg (some (K + 59))) (6 : Int32).toNatClampNeg (some (K + 69))) (7 : Int32).toNatClampNeg (some (K + 79))) (8 : Int32).toNatClampNeg (some (K + 89))) (9 : Int32).toNatClampNeg (some (K + 99))) (10 : Int32).toNatClampNeg (some (K + 109))) (11 : Int32).toNatClampNeg (some (K + 119))) (12 : Int32).toNatClampNeg (some (K + 129))) (13 : Int32).toNatClampNeg (some (K + 139))) (14 : Int32).toNatClampNeg (some (K + 149)))))))) H := hat_K.kept (oq _ (by omega) (by omega))
  have hat_K7 : va_at D vwCl ((K + 7), .inl (cy 3, 16, .inr (.inr (.inr (.inr (va_up (va_up (va_up (va_up (va_up (va_up (va_up (va_up (va_up (va_up (va_up (va_up (va_up (va_up (va_up (fun _ => none) (0 : Int32).toNatClampNeg (some (K + 14))) (1 : Int32).toNatClampNeg (some (K + 24))) (2 : Int32).toNatClampNeg (some (K + 34))) (3 : Int32).toNatClampNeg (some (K + 44))) (4 : Int32).toNatClampNeg (some (K + 54))) (5 : Int32).toNatClampNeg (some (K + 64))) (6 : Int32).toNatClampNeg (some (K + 74))) (7 : Int32).toNatClampNeg (some (K + 84))) (8 : Int32).toNatClampNeg (some (K + 94))) (9 : Int32).toNatClampNeg (some (K + 104))) (10 : Int32).toNatClampNeg (some (K + 114))) (11 : Int32).toNatClampNeg (some (K + 124))) (12 : Int32).toNatClampNeg (some (K + 134))) (13 : Int32).toNatClampNeg (some (K + 144))) (14 : Int32).toNatClampNeg (some (K + 154)))))))) H := hat_K7.kept (oq _ (by omega) (by omega))
  refine W.widen (k := 164) (n := 1248) (Nat.le_of_ble_eq_true rfl) (Nat.le_of_ble_eq_true rfl) ?_
  have hG : rc_G D cy ld t ((K + 7) :: K :: a0 :: X) (K + 164) H := hG
  obtain ⟨fs9, hv9, -⟩ := hG.obj (ci := 9) ht159 (by decide) (by omega) (rc_nin (by omega) ( rc_nin (by omega) ( rc_nin (by omega) (hX _ (by omega)))))
  refine rc_aast (ci := 9) (r := (RX9, TX9, 11)) hx hb hK 3 hat_K rfl hv9 rfl (fx_in (by decide)) dX1_init_79 (fun H j9 hat_n z9 oq => ?_)
  have hS := hS.put (k := j9) z9 oq (by show _ = _ ∨ _ ≤ _; omega)
  have hat_a0 : va_at D vwCl (a0, .inr (1, [.int 0, .ref a1, .ref a2, .ref K, .ref (K + 1), .int 0, .ref (K + 2), .ref (K + 7), .ref (K + 8), .int 0, .int 0])) H := hat_a0.kept (oq _ (by omega))
  have hat_K7 : va_at D vwCl ((K + 7), .inl (cy 3, 16, .inr (.inr (.inr (.inr (va_up (va_up (va_up (va_up (va_up (va_up (va_up (va_up (va_up (va_up (va_up (va_up (va_up (va_up (va_up (fun _ => none) (0 : Int32).toNatClampNeg (some (K + 14))) (1 : Int32).toNatClampNeg (some (K + 24))) (2 : Int32).toNatClampNeg (some (K + 34))) (3 : Int32).toNatClampNeg (some (K + 44))) (4 : Int32).toNatClampNeg (some (K + 54))) (5 : Int32).toNatClampNeg (some (K + 64))) (6 : Int32).toNatClampNeg (some (K + 74))) (7 : Int32).toNatClampNeg (some (K + 84))) (8 : Int32).toNatClampNeg (some (K + 94))) (9 : Int32).toNatClampNeg (some (K + 104))) (10 : Int32).toNatClampNeg (some (K + 114))) (11 : Int32).toNatClampNeg (some (K + 124))) (12 : Int32).toNatClampNeg (some (K + 134))) (13 : Int32).toNatClampNeg (some (K + 144))) (14 : Int32).toNatClampNeg (some (K + 154)))))))) H := hat_K7.kept (oq _ (by omega))
  have hat_K : va_at D vwCl (K, .inl (cy 3, 16, .inr (.inr (.inr (.inr (va_up (va_up (va_up (va_up (va_up (va_up (va_up (va_up (va_up (va_up (va_up (va_up (va_up (va_up (va_up (va_up (fun _ => none) (0 : Int32).toNatClampNeg (some (K + 9))) (1 : Int32).toNatClampNeg (some (K + 19))) (2 : Int32).toNatClampNeg (some (K + 29))) (3 : Int32).toNatClampNeg (some (K + 39))) (4 : Int32).toNatClampNeg (some (K + 49))) (5 : Int32).toNatClampNeg (some (K + 59))) (6 : Int32).toNatClampNeg (some (K + 69))) (7 : Int32).toNatClampNeg (some (K + 79))) (8 : Int32).toNatClampNeg (some (K + 89))) (9 : Int32).toNatClampNeg (some (K + 99))) (10 : Int32).toNatClampNeg (some (K + 109))) (11 : Int32).toNatClampNeg (some (K + 119))) (12 : Int32).toNatClampNeg (some (K + 129))) (13 : Int32).toNatClampNeg (some (K + 139))) (14 : Int32).toNatClampNeg (some (K + 149))) (15 : Int32).toNatClampNeg (some (K + 159)))))))) H := hat_n
  have hG : rc_G D cy ld t ((K + 7) :: K :: a0 :: X) (K + 164) H := hG.ajar (by simp) z9 oq
  refine lv_aload_n hx hb dX1_init_80 rfl (lv_at hl 1 rfl) ?_
  refine va_get (ci := 1) (C := RX1) (T := TX1) (N := 11) hx hb htl inX1 hown hK.1 (tk_one hat_a0) 0 rfl rfl 7 (by decide) (htl _ mw_112) (fun _ h9 => h9) rfl dX1_init_81 ?_
  refine lv_iload_n hx hb dX1_init_84 rfl (lv_at hl 0 rfl) ?_
  refine rc_new (ci := 9) (fs := [.null, .null, .null, .null, .int 0, .int 0, .int 0, .int 0, .int 0, .int 0, .int 0]) (C := RX9) (T := TX9) (N := 11) hx hb htl inX9 tyX9 tyX9_ok hown (htl _ mw_108) (htl _ mw_75) (htl _ mw_76) hK hG hS rfl dfX9 (Nat.le_of_ble_eq_true rfl) (Nat.le_of_ble_eq_true rfl) dX1_init_85 (fun H hG hat_n oq hS => ?_)
  have hat_a0 : va_at D vwCl (a0, .inr (1, [.int 0, .ref a1, .ref a2, .ref K, .ref (K + 1), .int 0, .ref (K + 2), .ref (K + 7), .ref (K + 8), .int 0, .int 0])) H := hat_a0.kept (oq _ (by omega))
  have hat_K : va_at D vwCl (K, .inl (cy 3, 16, .inr (.inr (.inr (.inr (va_up (va_up (va_up (va_up (va_up (va_up (va_up (va_up (va_up (va_up (va_up (va_up (va_up (va_up (va_up (va_up (fun _ => none) (0 : Int32).toNatClampNeg (some (K + 9))) (1 : Int32).toNatClampNeg (some (K + 19))) (2 : Int32).toNatClampNeg (some (K + 29))) (3 : Int32).toNatClampNeg (some (K + 39))) (4 : Int32).toNatClampNeg (some (K + 49))) (5 : Int32).toNatClampNeg (some (K + 59))) (6 : Int32).toNatClampNeg (some (K + 69))) (7 : Int32).toNatClampNeg (some (K + 79))) (8 : Int32).toNatClampNeg (some (K + 89))) (9 : Int32).toNatClampNeg (some (K + 99))) (10 : Int32).toNatClampNeg (some (K + 109))) (11 : Int32).toNatClampNeg (some (K + 119))) (12 : Int32).toNatClampNeg (some (K + 129))) (13 : Int32).toNatClampNeg (some (K + 139))) (14 : Int32).toNatClampNeg (some (K + 149))) (15 : Int32).toNatClampNeg (some (K + 159)))))))) H := hat_K.kept (oq _ (by omega))
  have hat_K7 : va_at D vwCl ((K + 7), .inl (cy 3, 16, .inr (.inr (.inr (.inr (va_up (va_up (va_up (va_up (va_up (va_up (va_up (va_up (va_up (va_up (va_up (va_up (va_up (va_up (va_up (fun _ => none) (0 : Int32).toNatClampNeg (some (K + 14))) (1 : Int32).toNatClampNeg (some (K + 24))) (2 : Int32).toNatClampNeg (some (K + 34))) (3 : Int32).toNatClampNeg (some (K + 44))) (4 : Int32).toNatClampNeg (some (K + 54))) (5 : Int32).toNatClampNeg (some (K + 64))) (6 : Int32).toNatClampNeg (some (K + 74))) (7 : Int32).toNatClampNeg (some (K + 84))) (8 : Int32).toNatClampNeg (some (K + 94))) (9 : Int32).toNatClampNeg (some (K + 104))) (10 : Int32).toNatClampNeg (some (K + 114))) (11 : Int32).toNatClampNeg (some (K + 124))) (12 : Int32).toNatClampNeg (some (K + 134))) (13 : Int32).toNatClampNeg (some (K + 144))) (14 : Int32).toNatClampNeg (some (K + 154)))))))) H := hat_K7.kept (oq _ (by omega))
  refine W.widen (k := 165) (n := 1259) (Nat.le_of_ble_eq_true rfl) (Nat.le_of_ble_eq_true rfl) ?_
  have hG : rc_G D cy ld t ((K + 164) :: (K + 7) :: K :: a0 :: X) (K + 165) H := hG
  have hat_K164 : va_at D vwCl ((K + 164), .inr (9, [.null, .null, .null, .null, .int 0, .int 0, .int 0, .int 0, .int 0, .int 0, .int 0])) H := hat_n
  refine lv_dup hx hb dX1_init_88 rfl ?_
  have hXX := kc_X9 l D cy ld t ((K + 7) :: K :: a0 :: X) (K + 164) (K + 165) 3 ht164 hs165  (fun q hq => rc_nin (by omega) (rc_nin (by omega) (rc_nin (by omega) (hX q (by omega)))))
  refine rc_I (As := []) (rest := [.ref (K + 164), .int 15, .ref (K + 7)]) (ci := 9) (n1 := (K + 169)) ⟨hx, hb, hml, hown, hts⟩ hK hG hat_K164 hS (fun q h9 => by show _ = _ ∨ _ ≤ _; omega) hXX ⟨callB_of 0 hts (wl_in mw_80) rfl rfl rfl (htl _ mw_76) (htl _ mw_116) hd_yX9_init ⟨(Nat.le_of_ble_eq_true rfl), (Nat.le_of_ble_eq_true rfl)⟩, rfl, htl _ mw_79⟩ rfl hl.1 rfl (Nat.le_of_ble_eq_true rfl) dX1_init_89 ⟨(Nat.le_of_ble_eq_true rfl), (Nat.le_of_ble_eq_true rfl)⟩ (fun H locs hG oq hS => ?_)
  have hat_a0 : va_at D vwCl (a0, .inr (1, [.int 0, .ref a1, .ref a2, .ref K, .ref (K + 1), .int 0, .ref (K + 2), .ref (K + 7), .ref (K + 8), .int 0, .int 0])) H := hat_a0.kept (oq _ (by omega) (by omega))
  have hat_K : va_at D vwCl (K, .inl (cy 3, 16, .inr (.inr (.inr (.inr (va_up (va_up (va_up (va_up (va_up (va_up (va_up (va_up (va_up (va_up (va_up (va_up (va_up (va_up (va_up (va_up (fun _ => none) (0 : Int32).toNatClampNeg (some (K + 9))) (1 : Int32).toNatClampNeg (some (K + 19))) (2 : Int32).toNatClampNeg (some (K + 29))) (3 : Int32).toNatClampNeg (some (K + 39))) (4 : Int32).toNatClampNeg (some (K + 49))) (5 : Int32).toNatClampNeg (some (K + 59))) (6 : Int32).toNatClampNeg (some (K + 69))) (7 : Int32).toNatClampNeg (some (K + 79))) (8 : Int32).toNatClampNeg (some (K + 89))) (9 : Int32).toNatClampNeg (some (K + 99))) (10 : Int32).toNatClampNeg (some (K + 109))) (11 : Int32).toNatClampNeg (some (K + 119))) (12 : Int32).toNatClampNeg (some (K + 129))) (13 : Int32).toNatClampNeg (some (K + 139))) (14 : Int32).toNatClampNeg (some (K + 149))) (15 : Int32).toNatClampNeg (some (K + 159)))))))) H := hat_K.kept (oq _ (by omega) (by omega))
  have hat_K7 : va_at D vwCl ((K + 7), .inl (cy 3, 16, .inr (.inr (.inr (.inr (va_up (va_up (va_up (va_up (va_up (va_up (va_up (va_up (va_up (va_up (va_up (va_up (va_up (va_up (va_up (fun _ => none) (0 : Int32).toNatClampNeg (some (K + 14))) (1 : Int32).toNatClampNeg (some (K + 24))) (2 : Int32).toNatClampNeg (some (K + 34))) (3 : Int32).toNatClampNeg (some (K + 44))) (4 : Int32).toNatClampNeg (some (K + 54))) (5 : Int32).toNatClampNeg (some (K + 64))) (6 : Int32).toNatClampNeg (some (K + 74))) (7 : Int32).toNatClampNeg (some (K + 84))) (8 : Int32).toNatClampNeg (some (K + 94))) (9 : Int32).toNatClampNeg (some (K + 104))) (10 : Int32).toNatClampNeg (some (K + 114))) (11 : Int32).toNatClampNeg (some (K + 124))) (12 : Int32).toNatClampNeg (some (K + 134))) (13 : Int32).toNatClampNeg (some (K + 144))) (14 : Int32).toNatClampNeg (some (K + 154)))))))) H := hat_K7.kept (oq _ (by omega) (by omega))
  refine W.widen (k := 169) (n := 1285) (Nat.le_of_ble_eq_true rfl) (Nat.le_of_ble_eq_true rfl) ?_
  have hG : rc_G D cy ld t ((K + 7) :: K :: a0 :: X) (K + 169) H := hG
  obtain ⟨fs9, hv9, -⟩ := hG.obj (ci := 9) ht164 (by decide) (by omega) (rc_nin (by omega) ( rc_nin (by omega) ( rc_nin (by omega) (hX _ (by omega)))))
  refine rc_aast (ci := 9) (r := (RX9, TX9, 11)) hx hb hK 3 hat_K7 rfl hv9 rfl (fx_in (by decide)) dX1_init_92 (fun H j9 hat_n z9 oq => ?_)
  have hS := hS.put (k := j9) z9 oq (by show _ = _ ∨ _ ≤ _; omega)
  have hat_a0 : va_at D vwCl (a0, .inr (1, [.int 0, .ref a1, .ref a2, .ref K, .ref (K + 1), .int 0, .ref (K + 2), .ref (K + 7), .ref (K + 8), .int 0, .int 0])) H := hat_a0.kept (oq _ (by omega))
  have hat_K : va_at D vwCl (K, .inl (cy 3, 16, .inr (.inr (.inr (.inr (va_up (va_up (va_up (va_up (va_up (va_up (va_up (va_up (va_up (va_up (va_up (va_up (va_up (va_up (va_up (va_up (fun _ => none) (0 : Int32).toNatClampNeg (some (K + 9))) (1 : Int32).toNatClampNeg (some (K + 19))) (2 : Int32).toNatClampNeg (some (K + 29))) (3 : Int32).toNatClampNeg (some (K + 39))) (4 : Int32).toNatClampNeg (some (K + 49))) (5 : Int32).toNatClampNeg (some (K + 59))) (6 : Int32).toNatClampNeg (some (K + 69))) (7 : Int32).toNatClampNeg (some (K + 79))) (8 : Int32).toNatClampNeg (some (K + 89))) (9 : Int32).toNatClampNeg (some (K + 99))) (10 : Int32).toNatClampNeg (some (K + 109))) (11 : Int32).toNatClampNeg (some (K + 119))) (12 : Int32).toNatClampNeg (some (K + 129))) (13 : Int32).toNatClampNeg (some (K + 139))) (14 : Int32).toNatClampNeg (some (K + 149))) (15 : Int32).toNatClampNeg (some (K + 159)))))))) H := hat_K.kept (oq _ (by omega))
  have hat_K7 : va_at D vwCl ((K + 7), .inl (cy 3, 16, .inr (.inr (.inr (.inr (va_up (va_up (va_up (va_up (va_up (va_up (va_up (va_up (va_up (va_up (va_up (va_up (va_up (va_up (va_up (va_up (fun _ => none) (0 : Int32).toNatClampNeg (some (K + 14))) (1 : Int32).toNatClampNeg (some (K + 24))) (2 : Int32).toNatClampNeg (some (K + 34))) (3 : Int32).toNatClampNeg (some (K + 44))) (4 : Int32).toNatClampNeg (some (K + 54))) (5 : Int32).toNatClampNeg (some (K + 64))) (6 : Int32).toNatClampNeg (some (K + 74))) (7 : Int32).toNatClampNeg (some (K + 84))) (8 : Int32).toNatClampNeg (some (K + 94))) (9 : Int32).toNatClampNeg (some (K + 104))) (10 : Int32).toNatClampNeg (some (K + 114))) (11 : Int32).toNatClampNeg (some (K + 124))) (12 : Int32).toNatClampNeg (some (K + 134))) (13 : Int32).toNatClampNeg (some (K + 144))) (14 : Int32).toNatClampNeg (some (K + 154))) (15 : Int32).toNatClampNeg (some (K + 164)))))))) H := hat_n
  have hG : rc_G D cy ld t ((K + 7) :: K :: a0 :: X) (K + 169) H := hG.ajar (by simp) z9 oq
  refine lv_iinc (v := 16) (lv' := [(3, .int 16), (0, .ref a0), (1, .ref a1), (2, .ref a2)]) hx hb dX1_init_93 hl (k := 0) rfl (by decide) (by decide) rfl (fun ls hl => ?_)
  refine lv_goto (tgt := 61) hx hb dX1_init_96 (by decide) ?_
  refine lv_iload_n hx hb dX1_init_61 rfl (lv_at hl 0 rfl) ?_
  refine lv_bipush (v := 16) hx hb dX1_init_62 (by decide) ?_
  refine lv_icmp_ge (tgt := 99) hx hb dX1_init_64 (by decide) (fun _ => ?_) (fun c9 => absurd (by decide) c9)
  have hrow9 : ∀ j : Nat, j < 16 → tk_R ld t 25 3 j ((va_up (va_up (va_up (va_up (va_up (va_up (va_up (va_up (va_up (va_up (va_up (va_up (va_up (va_up (va_up (va_up (fun _ => none) (0 : Int32).toNatClampNeg (some (K + 14))) (1 : Int32).toNatClampNeg (some (K + 24))) (2 : Int32).toNatClampNeg (some (K + 34))) (3 : Int32).toNatClampNeg (some (K + 44))) (4 : Int32).toNatClampNeg (some (K + 54))) (5 : Int32).toNatClampNeg (some (K + 64))) (6 : Int32).toNatClampNeg (some (K + 74))) (7 : Int32).toNatClampNeg (some (K + 84))) (8 : Int32).toNatClampNeg (some (K + 94))) (9 : Int32).toNatClampNeg (some (K + 104))) (10 : Int32).toNatClampNeg (some (K + 114))) (11 : Int32).toNatClampNeg (some (K + 124))) (12 : Int32).toNatClampNeg (some (K + 134))) (13 : Int32).toNatClampNeg (some (K + 144))) (14 : Int32).toNatClampNeg (some (K + 154))) (15 : Int32).toNatClampNeg (some (K + 164))) j) := fun j hj => by
      match j, hj with
      | 0, _ => exact ⟨_, rfl, ht14⟩
      | 1, _ => exact ⟨_, rfl, ht24⟩
      | 2, _ => exact ⟨_, rfl, ht34⟩
      | 3, _ => exact ⟨_, rfl, ht44⟩
      | 4, _ => exact ⟨_, rfl, ht54⟩
      | 5, _ => exact ⟨_, rfl, ht64⟩
      | 6, _ => exact ⟨_, rfl, ht74⟩
      | 7, _ => exact ⟨_, rfl, ht84⟩
      | 8, _ => exact ⟨_, rfl, ht94⟩
      | 9, _ => exact ⟨_, rfl, ht104⟩
      | 10, _ => exact ⟨_, rfl, ht114⟩
      | 11, _ => exact ⟨_, rfl, ht124⟩
      | 12, _ => exact ⟨_, rfl, ht134⟩
      | 13, _ => exact ⟨_, rfl, ht144⟩
      | 14, _ => exact ⟨_, rfl, ht154⟩
      | 15, _ => exact ⟨_, rfl, ht164⟩
      | j + 16, h => exact absurd h (by omega)
  have hG : rc_G D cy ld t (K :: a0 :: X) (K + 169) H := rc_G.close hG hat_K7 ht7 (rc_arrQ (c := 0) (by decide) (by decide) hrow9)
  have hrow9 : ∀ j : Nat, j < 16 → tk_R ld t 25 1 j ((va_up (va_up (va_up (va_up (va_up (va_up (va_up (va_up (va_up (va_up (va_up (va_up (va_up (va_up (va_up (va_up (fun _ => none) (0 : Int32).toNatClampNeg (some (K + 9))) (1 : Int32).toNatClampNeg (some (K + 19))) (2 : Int32).toNatClampNeg (some (K + 29))) (3 : Int32).toNatClampNeg (some (K + 39))) (4 : Int32).toNatClampNeg (some (K + 49))) (5 : Int32).toNatClampNeg (some (K + 59))) (6 : Int32).toNatClampNeg (some (K + 69))) (7 : Int32).toNatClampNeg (some (K + 79))) (8 : Int32).toNatClampNeg (some (K + 89))) (9 : Int32).toNatClampNeg (some (K + 99))) (10 : Int32).toNatClampNeg (some (K + 109))) (11 : Int32).toNatClampNeg (some (K + 119))) (12 : Int32).toNatClampNeg (some (K + 129))) (13 : Int32).toNatClampNeg (some (K + 139))) (14 : Int32).toNatClampNeg (some (K + 149))) (15 : Int32).toNatClampNeg (some (K + 159))) j) := fun j hj => by
      match j, hj with
      | 0, _ => exact ⟨_, rfl, ht9⟩
      | 1, _ => exact ⟨_, rfl, ht19⟩
      | 2, _ => exact ⟨_, rfl, ht29⟩
      | 3, _ => exact ⟨_, rfl, ht39⟩
      | 4, _ => exact ⟨_, rfl, ht49⟩
      | 5, _ => exact ⟨_, rfl, ht59⟩
      | 6, _ => exact ⟨_, rfl, ht69⟩
      | 7, _ => exact ⟨_, rfl, ht79⟩
      | 8, _ => exact ⟨_, rfl, ht89⟩
      | 9, _ => exact ⟨_, rfl, ht99⟩
      | 10, _ => exact ⟨_, rfl, ht109⟩
      | 11, _ => exact ⟨_, rfl, ht119⟩
      | 12, _ => exact ⟨_, rfl, ht129⟩
      | 13, _ => exact ⟨_, rfl, ht139⟩
      | 14, _ => exact ⟨_, rfl, ht149⟩
      | 15, _ => exact ⟨_, rfl, ht159⟩
      | j + 16, h => exact absurd h (by omega)
  have hG : rc_G D cy ld t (a0 :: X) (K + 169) H := rc_G.close hG hat_K ht0 (rc_arrQ (c := 0) (by decide) (by decide) hrow9)
  have hG : rc_G D cy ld t X (K + 169) H := hG.close hat_a0 ht_a0 (rc_obj (ci := 1) (by decide) rfl (fun j sp hj => by
      match j, hj with
      | 0, hj => cases hj; exact ⟨_, rfl, _, rfl, by decide, by decide⟩
      | 1, hj => cases hj; exact ⟨_, rfl, congrArg Value.ref hl_20.symm, (congrArg t hl_20).trans ht_a1⟩
      | 2, hj => cases hj; exact ⟨_, rfl, _, rfl, ht_a2⟩
      | 3, hj => cases hj; exact ⟨_, rfl, _, rfl, ht0⟩
      | 4, hj => cases hj; exact ⟨_, rfl, _, rfl, ht1⟩
      | 5, hj => cases hj; exact ⟨_, rfl, _, rfl, by decide, by decide⟩
      | 6, hj => cases hj; exact ⟨_, rfl, _, rfl, ht2⟩
      | 7, hj => cases hj; exact ⟨_, rfl, _, rfl, ht7⟩
      | 8, hj => cases hj; exact ⟨_, rfl, _, rfl, ht8⟩
      | 9, hj => cases hj; exact ⟨_, rfl, _, rfl, by decide, by decide⟩
      | 10, hj => cases hj; exact ⟨_, rfl, _, rfl, by decide, by decide⟩
      | j + 11, hj => simp [tk_F] at hj) trivial)
  exact rc_vret hx hb hr hlocks hG hS dX1_init_99
