set_option maxHeartbeats 16000000 in
set_option maxRecDepth 100000 in
theorem whole_start {p : Program} {e : Env} {s : State} {m : MethodId} {below : List Frame} {meth : Method} {c : Code} (l : Launch) {b L : Nat} {xs : Nat → Int32} (hL : L ≤ 6) (C0 : lw_At p s m meth c b L xs) : W p l e room_1 s m #[Value.ref b] below meth c s.heap [] 0 0 (lw_Z below #[Value.ref b] s) (entryFrame m ([Value.ref b] : List Value).toArray 4) := by
  obtain ⟨hx, hb, hr, hml, hown, hts, hX, hbl, hlocks, hgv⟩ := id C0
  have hown : s.vm.findClass RL = some m.cls := hown
  have htl : ∀ w ∈ wsA, w.before #[Value.ref b] s = true := fun w h => hts w (wsA_in w h)
  have hA : ∀ q : Nat, s.heap.size ≤ q → (fun q : Nat => s.heap.size ≤ q) q := fun _ h => h
  have hbA : ¬ (fun q : Nat => s.heap.size ≤ q) b := Nat.not_le.mpr hbl
  obtain ⟨c0, i0, hKn0⟩ := u_known (C := RX0) (T := TX0) (N := 7) (n := 7) htl inX0 (htl _ mw_43)
  obtain ⟨c1, i1, hKn1⟩ := u_known (C := RX1) (T := TX1) (N := 11) (n := 11) htl inX1 (htl _ mw_24)
  obtain ⟨c2, i2, hKn2⟩ := u_known (C := RX2) (T := TX2) (N := 20) (n := 20) htl inX2 (htl _ mw_13)
  obtain ⟨c3, i3, hKn3⟩ := u_known (C := RX3) (T := TX3) (N := 5) (n := 5) htl inX3 (htl _ mw_47)
  obtain ⟨c4, i4, hKn4⟩ := u_known (C := RX4) (T := TX4) (N := 6) (n := 6) htl inX4 (htl _ mw_28)
  obtain ⟨c5, i5, hKn5⟩ := u_known (C := RX5) (T := TX5) (N := 11) (n := 11) htl inX5 (htl _ mw_39)
  obtain ⟨c6, i6, hKn6⟩ := u_known (C := RX6) (T := TX6) (N := 11) (n := 11) htl inX6 (htl _ mw_35)
  obtain ⟨c7, i7, hKn7⟩ := u_known (C := RX7) (T := TX7) (N := 10) (n := 10) htl inX7 (htl _ mw_130)
  obtain ⟨c8, i8, hKn8⟩ := u_known (C := RX8) (T := TX8) (N := 3) (n := 3) htl inX8 (htl _ mw_20)
  obtain ⟨c9, i9, hKn9⟩ := u_known (C := RX9) (T := TX9) (N := 11) (n := 11) htl inX9 (htl _ mw_75)
  obtain ⟨c10, i10, hKn10⟩ := u_known (C := RX10) (T := TX10) (N := 3) (n := 3) htl inX10 (htl _ mw_51)
  obtain ⟨c11, i11, hKn11⟩ := u_known (C := RX11) (T := TX11) (N := 3) (n := 3) htl inX11 (htl _ mw_94)
  obtain ⟨c12, i12, hKn12⟩ := u_known (C := RX12) (T := TX12) (N := 17) (n := 17) htl inX12 (htl _ mw_1)
  obtain ⟨c13, i13, hKn13⟩ := u_known (C := RX13) (T := TX13) (N := 70) (n := 70) htl inX13 (htl _ mw_4)
  obtain ⟨dC, dI, hKc⟩ : ∃ (dC : Nat → ClassId) (dI : Nat → Nat → Nat), ∀ (k : Nat) (q : vw_C), vwCl[k]? = some q → u_Kn s q.1 q.2.1 q.2.2 (dC k) (dI k) := by
    refine ⟨fun k => [c0, c1, c2, c3, c4, c5, c6, c7, c8, c9, c10, c11, c12, c13].getD k c0, fun k => [i0, i1, i2, i3, i4, i5, i6, i7, i8, i9, i10, i11, i12, i13].getD k i0, ?_⟩
    intro k q hq
    match k, hq with
    | 0, hq => cases hq; exact hKn0
    | 1, hq => cases hq; exact hKn1
    | 2, hq => cases hq; exact hKn2
    | 3, hq => cases hq; exact hKn3
    | 4, hq => cases hq; exact hKn4
    | 5, hq => cases hq; exact hKn5
    | 6, hq => cases hq; exact hKn6
    | 7, hq => cases hq; exact hKn7
    | 8, hq => cases hq; exact hKn8
    | 9, hq => cases hq; exact hKn9
    | 10, hq => cases hq; exact hKn10
    | 11, hq => cases hq; exact hKn11
    | 12, hq => cases hq; exact hKn12
    | 13, hq => cases hq; exact hKn13
    | k + 14, hq => simp [vwCl] at hq
  obtain ⟨aI, kI, mI, fI1, fI2, fI3⟩ := Cond.arrayClass_spec (htl (.arrayClass .int) mw_32)
  obtain ⟨aJ, kJ, mJ, fJ1, fJ2, fJ3⟩ := Cond.arrayClass_spec (htl (.arrayClass .long) mw_202)
  obtain ⟨aZ, kZ, mZ, fZ1, fZ2, fZ3⟩ := Cond.arrayClass_spec (htl (.arrayClass .boolean) mw_17)
  have oS : va_AO RX9 s := va_AO.of (hts (.arrayOver (.object RX9)) (by decide +kernel))
  obtain ⟨mS, aS, kS, fS0, -, fS2, fS3, fS1⟩ := Cond.arrayOver_spec oS
  have oH : va_AO RX2 s := va_AO.of (hts (.arrayOver (.object RX2)) (by decide +kernel))
  obtain ⟨mH, aH, kH, fH0, -, fH2, fH3, fH1⟩ := Cond.arrayOver_spec oH
  have oT : va_AO RX7 s := va_AO.of (hts (.arrayOver (.object RX7)) (by decide +kernel))
  obtain ⟨mT, aT, kT, fT0, -, fT2, fT3, fT1⟩ := Cond.arrayOver_spec oT
  have hK0 : va_K (dC, dI) vwCl (tys0 (fun k => [aI, aJ, aZ, aS, aH, aT].getD k aI)) s := by
    refine ⟨hKc, fun k q hq => ?_⟩
    match k, hq with
    | 0, hq => cases hq; exact ⟨fun N z => ⟨(fun k h => by cases h), kI, fI2, mI, fI3⟩, fI1⟩
    | 1, hq => cases hq; exact ⟨fun N z => ⟨(fun k h => by cases h), kJ, fJ2, mJ, fJ3⟩, fJ1⟩
    | 2, hq => cases hq; exact ⟨fun N z => ⟨(fun k h => by cases h), kZ, fZ2, mZ, fZ3⟩, fZ1⟩
    | 3, hq => cases hq; exact ⟨fun N z => ⟨(fun k h => by cases h), kS, fS2, mS, fS3⟩, kS, mS, fS2, fS3, fS0, fS1⟩
    | 4, hq => cases hq; exact ⟨fun N z => ⟨(fun k h => by cases h), kH, fH2, mH, fH3⟩, kH, mH, fH2, fH3, fH0, fH1⟩
    | 5, hq => cases hq; exact ⟨fun N z => ⟨(fun k h => by cases h), kT, fT2, mT, fT3⟩, kT, mT, fT2, fT3, fT0, fT1⟩
    | k + 6, hq => simp [tys0] at hq
  have hs := flat_of_before _ hgv
  have e108 : (Cond.exactly (.string RX6 108) "java/lang/String").before #[Value.ref b] s = true := hs _ (by decide +kernel)
  obtain ⟨w108, -, -, -, g108, -⟩ := Cond.exactly_spec e108
  have z108 : vk_R RX6 108 "lulls tires wakes bars" w108 s := vk_R.of (hts (.stringRef RX6 108 "lulls tires wakes bars") (by decide +kernel)) g108
  have e110 : (Cond.exactly (.string RX6 110) "java/lang/String").before #[Value.ref b] s = true := hs _ (by decide +kernel)
  obtain ⟨w110, -, -, -, g110, -⟩ := Cond.exactly_spec e110
  have z110 : vk_R RX6 110 "begin sing part dawn" w110 s := vk_R.of (hts (.stringRef RX6 110 "begin sing part dawn") (by decide +kernel)) g110
  obtain ⟨D, cy, ld, hK⟩ : ∃ (D : va_G) (cy : Nat → ClassId) (ld : Nat → Nat), kk_K D cy ld s := ⟨(dC, dI), (fun k => [aI, aJ, aZ, aS, aH, aT].getD k aI), (fun k => [w108, w110].getD k 0), hK0, ⟨oS, oH, oT⟩, hts (.arrayOver (.array .int)) (by decide +kernel), ⟨va_Nw.of rfl (hts (.methodLinkNest RX2 94 yX12_within RX12) (by decide +kernel)), va_Nw.of rfl (hts (.methodLinkNest RX1 40 yX12_within RX12) (by decide +kernel)), va_Nw.of rfl (hts (.methodLinkNest RX3 33 yX12_within RX12) (by decide +kernel))⟩, z108, z110⟩
  have hS : va_S (fun q : Nat => s.heap.size ≤ q) s.heap s.heap [] := va_S.rf
  have hP : va_P D vwCl [] s.heap := fun k q h => by simp at h
  have hD : va_D (fun q : Nat => s.heap.size ≤ q) [] := ⟨fun i j p q h => by simp at h, fun k q h => by simp at h⟩
  have hl := lv_entry ([.ref b]) (n := 4) (Nat.le_of_ble_eq_true rfl)
  rw [lg_entry_eq]
  generalize (lg_sl ([.ref b]) ++ List.replicate (4 - (lg_sl ([.ref b])).length) Slot.unset).toArray = ls at hl ⊢
  have hl : lv_has ls 4 [(0, .ref b)] := hl
  refine va_new (ci := 12) (fs := [.null, .null, .null, .null, .null, .null, .null, .null, .null, .null, .null, .null, .null, .int 0, .int 0, .int 0, .int 0]) (C := RX12) (T := TX12) (N := 17) hx hb htl inX12 tyX12 tyX12_ok hown (htl _ mw_0) (htl _ mw_1) (htl _ mw_2) hK.1 hP hD hS hA rfl dfX12 (Nat.le_of_ble_eq_true rfl) (Nat.le_of_ble_eq_true rfl) dL_law_0 (fun q0 H hP hD hS => ?_)
  refine W.widen (k := 1) (n := 17) (Nat.le_of_ble_eq_true rfl) (Nat.le_of_ble_eq_true rfl) ?_
  have hP : va_P D vwCl ([(q0, .inr (12, [.null, .null, .null, .null, .null, .null, .null, .null, .null, .null, .null, .null, .null, .int 0, .int 0, .int 0, .int 0]))]) H := hP
  have hD : va_D (fun q : Nat => s.heap.size ≤ q) ([(q0, .inr (12, [.null, .null, .null, .null, .null, .null, .null, .null, .null, .null, .null, .null, .null, .int 0, .int 0, .int 0, .int 0]))]) := hD
  refine lv_dup hx hb dL_law_3 rfl ?_
  refine fx_Iv (As := []) (rest := [.ref q0]) (wr := []) ⟨hx, hb, hml, hown, htl⟩ hK hP hD hS hA (k_12_init_0 l D cy ld _ q0) ⟨callB_of 0 htl (wl_inL mw_8) rfl rfl rfl (htl _ mw_2) (htl _ mw_6) hd_yX12_init ⟨(Nat.le_of_ble_eq_true rfl), (Nat.le_of_ble_eq_true rfl)⟩, rfl, htl _ mw_7⟩ [0] [] rfl rfl rfl rfl (by decide) rfl hl.1 rfl (Nat.le_of_ble_eq_true rfl) dL_law_4 ⟨(Nat.le_of_ble_eq_true rfl), (Nat.le_of_ble_eq_true rfl)⟩ (fun x H locs hP hD hS => ?_)
  refine W.widen (k := 292) (n := 4833) (Nat.le_of_ble_eq_true rfl) (Nat.le_of_ble_eq_true rfl) ?_
  have hP : va_P D vwCl (WX cy q0 x) H := hP
  have hD : va_D (fun q : Nat => s.heap.size ≤ q) (WX cy q0 x) := hD
  refine lv_astore_n (lv' := [(1, .ref q0), (0, .ref b)]) hx hb dL_law_7 rfl hl (by decide) rfl (fun ls hl => ?_)
  refine va_new (ci := 13) (fs := [.int 0, .int 0, .null, .null, .null, .null, .null, .null, .int 0, .null, .null, .int 0, .null, .int 0, .int 0, .int 0, .int 0, .long 0, .int 0, .int 0, .int 0, .int 0, .null, .int 0, .null, .null, .int 0, .null, .null, .int 0, .int 0, .null, .null, .null, .int 0, .null, .null, .null, .int 0, .long 0, .long 0, .int 0, .null, .null, .null, .null, .null, .long 0, .null, .null, .null, .null, .null, .int 0, .int 0, .null, .null, .int 0, .int 0, .null, .int 0, .null, .int 0, .int 0, .int 0, .int 0, .null, .null, .null, .int 0]) (C := RX13) (T := TX13) (N := 70) hx hb htl inX13 tyX13 tyX13_ok hown (htl _ mw_3) (htl _ mw_4) (htl _ mw_5) hK.1 hP hD hS hA rfl dfX13 (Nat.le_of_ble_eq_true rfl) (Nat.le_of_ble_eq_true rfl) dL_law_8 (fun q1 H hP hD hS => ?_)
  refine W.widen (k := 293) (n := 4903) (Nat.le_of_ble_eq_true rfl) (Nat.le_of_ble_eq_true rfl) ?_
  have hP : va_P D vwCl (WX cy q0 x ++ [(q1, .inr (13, [.int 0, .int 0, .null, .null, .null, .null, .null, .null, .int 0, .null, .null, .int 0, .null, .int 0, .int 0, .int 0, .int 0, .long 0, .int 0, .int 0, .int 0, .int 0, .null, .int 0, .null, .null, .int 0, .null, .null, .int 0, .int 0, .null, .null, .null, .int 0, .null, .null, .null, .int 0, .long 0, .long 0, .int 0, .null, .null, .null, .null, .null, .long 0, .null, .null, .null, .null, .null, .int 0, .int 0, .null, .null, .int 0, .int 0, .null, .int 0, .null, .int 0, .int 0, .int 0, .int 0, .null, .null, .null, .int 0]))]) H := hP
  have hD : va_D (fun q : Nat => s.heap.size ≤ q) (WX cy q0 x ++ [(q1, .inr (13, [.int 0, .int 0, .null, .null, .null, .null, .null, .null, .int 0, .null, .null, .int 0, .null, .int 0, .int 0, .int 0, .int 0, .long 0, .int 0, .int 0, .int 0, .int 0, .null, .int 0, .null, .null, .int 0, .null, .null, .int 0, .int 0, .null, .null, .null, .int 0, .null, .null, .null, .int 0, .long 0, .long 0, .int 0, .null, .null, .null, .null, .null, .long 0, .null, .null, .null, .null, .null, .int 0, .int 0, .null, .null, .int 0, .int 0, .null, .int 0, .null, .int 0, .int 0, .int 0, .int 0, .null, .null, .null, .int 0]))]) := hD
  refine lv_dup hx hb dL_law_11 rfl ?_
  refine fx_Iv (As := []) (rest := [.ref q1]) (wr := (WX cy q0 x)) ⟨hx, hb, hml, hown, htl⟩ hK hP hD hS hA (k_13_init_0 l D cy ld _ q1) ⟨callB_of 0 htl (wl_inL mw_185) rfl rfl rfl (htl _ mw_5) (htl _ mw_183) hd_yX13_init ⟨(Nat.le_of_ble_eq_true rfl), (Nat.le_of_ble_eq_true rfl)⟩, rfl, htl _ mw_184⟩ [72] [0, 1, 2, 3, 4, 5, 6, 7, 8, 9, 10, 11, 12, 13, 14, 15, 16, 17, 18, 19, 20, 21, 22, 23, 24, 25, 26, 27, 28, 29, 30, 31, 32, 33, 34, 35, 36, 37, 38, 39, 40, 41, 42, 43, 44, 45, 46, 47, 48, 49, 50, 51, 52, 53, 54, 55, 56, 57, 58, 59, 60, 61, 62, 63, 64, 65, 66, 67, 68, 69, 70, 71] rfl rfl rfl rfl (by decide) rfl hl.1 rfl (Nat.le_of_ble_eq_true rfl) dL_law_12 ⟨(Nat.le_of_ble_eq_true rfl), (Nat.le_of_ble_eq_true rfl)⟩ (fun y H locs hP hD hS => ?_)
  refine W.widen (k := 330) (n := 27556) (Nat.le_of_ble_eq_true rfl) (Nat.le_of_ble_eq_true rfl) ?_
  have hP : va_P D vwCl (WX cy q0 x ++ WM cy q1 y) H := hP
  have hD : va_D (fun q : Nat => s.heap.size ≤ q) (WX cy q0 x ++ WM cy q1 y) := hD
  refine lv_astore_n (lv' := [(2, .ref q1), (1, .ref q0), (0, .ref b)]) hx hb dL_law_15 rfl hl (by decide) rfl (fun ls hl => ?_)
  refine lv_iconst (v := 0) hx hb dL_law_16 (by decide) ?_
  refine lv_istore_n (lv' := [(3, .int 0), (2, .ref q1), (1, .ref q0), (0, .ref b)]) hx hb dL_law_17 rfl hl (by decide) rfl (fun ls hl => ?_)
  refine lv_iload_n hx hb dL_law_18 rfl (lv_at hl 0 rfl) ?_
  refine lv_aload_n hx hb dL_law_19 rfl (lv_at hl 3 rfl) ?_
  refine va_slen hx hb hX hbl hbA hS dL_law_20 ?_
  refine lv_bipush (v := 6) hx hb dL_law_21 (by decide) ?_
  refine lv_isub hx hb dL_law_23 ?_
  rcases (show L = 6 ∨ L < 6 by omega) with rfl | hlt
  · refine fx_ti (v := 0) (by decide) ?_
    refine lv_icmp_gt (tgt := 1381) hx hb dL_law_24 (by decide) (fun c9 => absurd c9 (by decide)) (fun _ => ?_)
    refine lv_aload_n hx hb dL_law_27 rfl (lv_at hl 3 rfl) ?_
    refine lv_iload_n hx hb dL_law_28 rfl (lv_at hl 0 rfl) ?_
    refine va_sld hx hb hX hbl hbA hS (fx_in (by decide)) dL_law_29 ?_
    refine fx_ti (v := xs 0) rfl ?_
    refine lv_bipush (v := 63) hx hb dL_law_30 (by decide) ?_
    refine lv_iand hx hb dL_law_32 ?_
    obtain ⟨j, hj, ej⟩ := pk_andE (xs 0) (m := 63) 6 (by decide)
    refine fx_ti (v := nI j) ej ?_
    rcases (show j = 0 ∨ j = 1 ∨ j = 2 ∨ j = 3 ∨ j = 4 ∨ j = 5 ∨ j = 6 ∨ j = 7 ∨ j = 8 ∨ j = 9 ∨ j = 10 ∨ j = 11 ∨ j = 12 ∨ j = 13 ∨ j = 14 ∨ j = 15 ∨ j = 16 ∨ j = 17 ∨ j = 18 ∨ j = 19 ∨ j = 20 ∨ j = 21 ∨ j = 22 ∨ j = 23 ∨ j = 24 ∨ j = 25 ∨ j = 26 ∨ j = 27 ∨ j = 28 ∨ j = 29 ∨ j = 30 ∨ j = 31 ∨ j = 32 ∨ j = 33 ∨ j = 34 ∨ j = 35 ∨ j = 36 ∨ j = 37 ∨ j = 38 ∨ j = 39 ∨ j = 40 ∨ 41 ≤ j by omega) with rfl | rfl | rfl | rfl | rfl | rfl | rfl | rfl | rfl | rfl | rfl | rfl | rfl | rfl | rfl | rfl | rfl | rfl | rfl | rfl | rfl | rfl | rfl | rfl | rfl | rfl | rfl | rfl | rfl | rfl | rfl | rfl | rfl | rfl | rfl | rfl | rfl | rfl | rfl | rfl | rfl | hj2
    · refine lv_tableIn (off := 179) (tgt := 212) hx hb dL_law_33 (by decide) (by decide) (by decide) (by decide) ?_
      exact law_0 C0 htl hK q0 q1 x y hP hD hS ls hl
    · refine lv_tableIn (off := 222) (tgt := 255) hx hb dL_law_33 (by decide) (by decide) (by decide) (by decide) ?_
      exact law_1 C0 htl hK q0 q1 x y hP hD hS ls hl
    · refine lv_tableIn (off := 255) (tgt := 288) hx hb dL_law_33 (by decide) (by decide) (by decide) (by decide) ?_
      exact law_2 C0 htl hK q0 q1 x y hP hD hS ls hl
    · refine lv_tableIn (off := 288) (tgt := 321) hx hb dL_law_33 (by decide) (by decide) (by decide) (by decide) ?_
      exact law_3 C0 htl hK q0 q1 x y hP hD hS ls hl
    · refine lv_tableIn (off := 321) (tgt := 354) hx hb dL_law_33 (by decide) (by decide) (by decide) (by decide) ?_
      exact law_4 C0 htl hK q0 q1 x y hP hD hS ls hl
    · refine lv_tableIn (off := 364) (tgt := 397) hx hb dL_law_33 (by decide) (by decide) (by decide) (by decide) ?_
      exact law_5 C0 htl hK q0 q1 x y hP hD hS ls hl
    · refine lv_tableIn (off := 407) (tgt := 440) hx hb dL_law_33 (by decide) (by decide) (by decide) (by decide) ?_
      exact law_6 C0 htl hK q0 q1 x y hP hD hS ls hl
    · refine lv_tableIn (off := 440) (tgt := 473) hx hb dL_law_33 (by decide) (by decide) (by decide) (by decide) ?_
      exact law_7 C0 htl hK q0 q1 x y hP hD hS ls hl
    · refine lv_tableIn (off := 473) (tgt := 506) hx hb dL_law_33 (by decide) (by decide) (by decide) (by decide) ?_
      exact law_8 C0 htl hK q0 q1 x y hP hD hS ls hl
    · refine lv_tableIn (off := 536) (tgt := 569) hx hb dL_law_33 (by decide) (by decide) (by decide) (by decide) ?_
      exact law_9 C0 htl hK q0 q1 x y hP hD hS ls hl
    · refine lv_tableIn (off := 559) (tgt := 592) hx hb dL_law_33 (by decide) (by decide) (by decide) (by decide) ?_
      exact law_10 C0 htl hK q0 q1 x y hP hD hS ls hl
    · refine lv_tableIn (off := 572) (tgt := 605) hx hb dL_law_33 (by decide) (by decide) (by decide) (by decide) ?_
      exact law_11 C0 htl hK q0 q1 x y hP hD hS ls hl
    · refine lv_tableIn (off := 585) (tgt := 618) hx hb dL_law_33 (by decide) (by decide) (by decide) (by decide) ?_
      exact law_12 C0 htl hK q0 q1 x y hP hD hS ls hl
    · refine lv_tableIn (off := 598) (tgt := 631) hx hb dL_law_33 (by decide) (by decide) (by decide) (by decide) ?_
      exact law_13 C0 htl hK q0 q1 x y hP hD hS ls hl
    · refine lv_tableIn (off := 611) (tgt := 644) hx hb dL_law_33 (by decide) (by decide) (by decide) (by decide) ?_
      exact law_14 C0 htl hK q0 q1 x y hP hD hS ls hl
    · refine lv_tableIn (off := 624) (tgt := 657) hx hb dL_law_33 (by decide) (by decide) (by decide) (by decide) ?_
      exact law_15 C0 htl hK q0 q1 x y hP hD hS ls hl
    · refine lv_tableIn (off := 637) (tgt := 670) hx hb dL_law_33 (by decide) (by decide) (by decide) (by decide) ?_
      exact law_16 C0 htl hK q0 q1 x y hP hD hS ls hl
    · refine lv_tableIn (off := 660) (tgt := 693) hx hb dL_law_33 (by decide) (by decide) (by decide) (by decide) ?_
      exact law_17 C0 htl hK q0 q1 x y hP hD hS ls hl
    · refine lv_tableIn (off := 693) (tgt := 726) hx hb dL_law_33 (by decide) (by decide) (by decide) (by decide) ?_
      exact law_18 C0 htl hK q0 q1 x y hP hD hS ls hl
    · refine lv_tableIn (off := 716) (tgt := 749) hx hb dL_law_33 (by decide) (by decide) (by decide) (by decide) ?_
      exact law_19 C0 htl hK q0 q1 x y hP hD hS ls hl
    · refine lv_tableIn (off := 759) (tgt := 792) hx hb dL_law_33 (by decide) (by decide) (by decide) (by decide) ?_
      exact law_20 C0 htl hK q0 q1 x y hP hD hS ls hl
    · refine lv_tableIn (off := 782) (tgt := 815) hx hb dL_law_33 (by decide) (by decide) (by decide) (by decide) ?_
      exact law_21 C0 htl hK q0 q1 x y hP hD hS ls hl
    · refine lv_tableIn (off := 805) (tgt := 838) hx hb dL_law_33 (by decide) (by decide) (by decide) (by decide) ?_
      exact law_22 C0 htl hK q0 q1 x y hP hD hS ls hl
    · refine lv_tableIn (off := 818) (tgt := 851) hx hb dL_law_33 (by decide) (by decide) (by decide) (by decide) ?_
      exact law_23 C0 htl hK q0 q1 x y hP hD hS ls hl
    · refine lv_tableIn (off := 831) (tgt := 864) hx hb dL_law_33 (by decide) (by decide) (by decide) (by decide) ?_
      exact law_24 C0 htl hK q0 q1 x y hP hD hS ls hl
    · refine lv_tableIn (off := 844) (tgt := 877) hx hb dL_law_33 (by decide) (by decide) (by decide) (by decide) ?_
      exact law_25 C0 htl hK q0 q1 x y hP hD hS ls hl
    · refine lv_tableIn (off := 877) (tgt := 910) hx hb dL_law_33 (by decide) (by decide) (by decide) (by decide) ?_
      exact law_26 C0 htl hK q0 q1 x y hP hD hS ls hl
    · refine lv_tableIn (off := 920) (tgt := 953) hx hb dL_law_33 (by decide) (by decide) (by decide) (by decide) ?_
      exact law_27 C0 htl hK q0 q1 x y hP hD hS ls hl
    · refine lv_tableIn (off := 953) (tgt := 986) hx hb dL_law_33 (by decide) (by decide) (by decide) (by decide) ?_
      exact law_28 C0 htl hK q0 q1 x y hP hD hS ls hl
    · refine lv_tableIn (off := 976) (tgt := 1009) hx hb dL_law_33 (by decide) (by decide) (by decide) (by decide) ?_
      exact law_29 C0 htl hK q0 q1 x y hP hD hS ls hl
    · refine lv_tableIn (off := 1009) (tgt := 1042) hx hb dL_law_33 (by decide) (by decide) (by decide) (by decide) ?_
      exact law_30 C0 htl hK q0 q1 x y hP hD hS ls hl
    · refine lv_tableIn (off := 1072) (tgt := 1105) hx hb dL_law_33 (by decide) (by decide) (by decide) (by decide) ?_
      exact law_31 C0 htl hK q0 q1 x y hP hD hS ls hl
    · refine lv_tableIn (off := 1085) (tgt := 1118) hx hb dL_law_33 (by decide) (by decide) (by decide) (by decide) ?_
      exact law_32 C0 htl hK q0 q1 x y hP hD hS ls hl
    · refine lv_tableIn (off := 1118) (tgt := 1151) hx hb dL_law_33 (by decide) (by decide) (by decide) (by decide) ?_
      exact law_33 C0 htl hK q0 q1 x y hP hD hS ls hl
    · refine lv_tableIn (off := 1151) (tgt := 1184) hx hb dL_law_33 (by decide) (by decide) (by decide) (by decide) ?_
      exact law_34 C0 htl hK q0 q1 x y hP hD hS ls hl
    · refine lv_tableIn (off := 1194) (tgt := 1227) hx hb dL_law_33 (by decide) (by decide) (by decide) (by decide) ?_
      exact law_35 C0 htl hK q0 q1 x y hP hD hS ls hl
    · refine lv_tableIn (off := 1227) (tgt := 1260) hx hb dL_law_33 (by decide) (by decide) (by decide) (by decide) ?_
      exact law_36 C0 htl hK q0 q1 x y hP hD hS ls hl
    · refine lv_tableIn (off := 1260) (tgt := 1293) hx hb dL_law_33 (by decide) (by decide) (by decide) (by decide) ?_
      exact law_37 C0 htl hK q0 q1 x y hP hD hS ls hl
    · refine lv_tableIn (off := 1283) (tgt := 1316) hx hb dL_law_33 (by decide) (by decide) (by decide) (by decide) ?_
      exact law_38 C0 htl hK q0 q1 x y hP hD hS ls hl
    · refine lv_tableIn (off := 1306) (tgt := 1339) hx hb dL_law_33 (by decide) (by decide) (by decide) (by decide) ?_
      exact law_39 C0 htl hK q0 q1 x y hP hD hS ls hl
    · refine lv_tableIn (off := 1329) (tgt := 1362) hx hb dL_law_33 (by decide) (by decide) (by decide) (by decide) ?_
      exact law_40 C0 htl hK q0 q1 x y hP hD hS ls hl
    · refine lv_tableOut (tgt := 1375) hx hb dL_law_33 (Or.inr (by rw [nI_toInt (show j < 2 ^ 31 by omega)]; omega)) (by decide) ?_
      exact law_end C0 (Nat.le_of_ble_eq_true rfl) (Nat.le_of_ble_eq_true rfl) hS ls q0 q1 hl
  · rcases (show L = 0 ∨ L = 1 ∨ L = 2 ∨ L = 3 ∨ L = 4 ∨ L = 5 by omega) with rfl | rfl | rfl | rfl | rfl | rfl <;>
      (refine lv_icmp_gt (tgt := 1381) hx hb dL_law_24 (by decide) (fun _ => ?_) (fun c9 => absurd (by decide) c9)
       refine lv_iconst (v := 1) hx hb dL_law_1381 (by decide) ?_
       refine va_forget (fun q hq => hS.2.2 q hq) ?_
       refine W.widen (k := 600000) (n := 7302250) (Nat.le_of_ble_eq_true rfl) (Nat.le_of_ble_eq_true rfl) ?_
       exact lw_ret hx hb hr hlocks dL_law_1382)
