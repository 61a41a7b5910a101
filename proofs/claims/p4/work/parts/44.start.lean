theorem dfX12 : ∀ j, j < 17 → defaultValue (tyX12 j) = vp_V [.null, .null, .null, .null, .null, .null, .null, .null, .null, .null, .null, .null, .null, .int 0, .int 0, .int 0, .int 0] j := by decide +kernel
set_option maxHeartbeats 16000000 in
set_option maxRecDepth 100000 in
theorem whole_start {p : Program} {e : Env} {s : State} {m : MethodId} {below : List Frame} {meth : Method} {c : Code} (l : Launch) {b L : Nat} {xs : Nat → Int32} (hL : L ≤ 3072) (C0 : lw_At p s m meth c b L xs) : W p l e room_1 s m #[Value.ref b] below meth c s.heap [] 0 0 (lw_Z below #[Value.ref b] s) (entryFrame m ([Value.ref b] : List Value).toArray 4) := by
  obtain ⟨hx, hb, hr, hml, hown, hts, hX, hbl, hlocks, hgv⟩ := id C0
  have hown : s.vm.findClass RL = some m.cls := hown
  have htl : ∀ w ∈ wsA, w.before #[Value.ref b] s = true := fun w h => hts w (wsA_in w h)
  obtain ⟨c0, i0, hKn0⟩ := u_known (C := RX0) (T := TX0) (N := 7) (n := 7) htl inX0 (htl _ mw_43)
  obtain ⟨c1, i1, hKn1⟩ := u_known (C := RX1) (T := TX1) (N := 11) (n := 11) htl inX1 (htl _ mw_24)
  obtain ⟨c2, i2, hKn2⟩ := u_known (C := RX2) (T := TX2) (N := 20) (n := 20) htl inX2 (htl _ mw_13)
  obtain ⟨c3, i3, hKn3⟩ := u_known (C := RX3) (T := TX3) (N := 5) (n := 5) htl inX3 (htl _ mw_47)
  obtain ⟨c4, i4, hKn4⟩ := u_known (C := RX4) (T := TX4) (N := 6) (n := 6) htl inX4 (htl _ mw_28)
  obtain ⟨c5, i5, hKn5⟩ := u_known (C := RX5) (T := TX5) (N := 11) (n := 11) htl inX5 (htl _ mw_39)
  obtain ⟨c6, i6, hKn6⟩ := u_known (C := RX6) (T := TX6) (N := 11) (n := 11) htl inX6 (htl _ mw_35)
  obtain ⟨c7, i7, hKn7⟩ := u_known (C := RX7) (T := TX7) (N := 10) (n := 10) htl inX7 (htl _ mw_130)
  obtain ⟨c8, i8, hKn8⟩ := u_known (C := RX8) (T := TX8) (N := 3) (n := 3) htl inX8 (htl _ mw_20)
  obtain ⟨c9, i9, hKn9⟩ := u_known (C := RX9) (T := TX9) (N := 11) (n := 11) htl inX9 (htl _ mw_75)
  obtain ⟨c10, i10, hKn10⟩ := u_known (C := RX10) (T := TX10) (N := 3) (n := 3) htl inX10 (htl _ mw_51)
  obtain ⟨c11, i11, hKn11⟩ := u_known (C := RX11) (T := TX11) (N := 3) (n := 3) htl inX11 (htl _ mw_94)
  obtain ⟨c12, i12, hKn12⟩ := u_known (C := RX12) (T := TX12) (N := 17) (n := 17) htl inX12 (htl _ mw_1)
  obtain ⟨c13, i13, hKn13⟩ := u_known (C := RX13) (T := TX13) (N := 70) (n := 70) htl inX13 (htl _ mw_4)
  obtain ⟨dC, dI, hKc⟩ : ∃ (dC : Nat → ClassId) (dI : Nat → Nat → Nat), ∀ (k : Nat) (q : vw_C), vwCl[k]? = some q → u_Kn s q.1 q.2.1 q.2.2 (dC k) (dI k) := by
    refine ⟨fun k => [c0, c1, c2, c3, c4, c5, c6, c7, c8, c9, c10, c11, c12, c13].getD k c0, fun k => [i0, i1, i2, i3, i4, i5, i6, i7, i8, i9, i10, i11, i12, i13].getD k i0, ?_⟩
    intro k q hq
    match k, hq with
    | 0, hq => cases hq; exact hKn0
    | 1, hq => cases hq; exact hKn1
    | 2, hq => cases hq; exact hKn2
    | 3, hq => cases hq; exact hKn3
    | 4, hq => cases hq; exact hKn4
    | 5, hq => cases hq; exact hKn5
    | 6, hq => cases hq; exact hKn6
    | 7, hq => cases hq; exact hKn7
    | 8, hq => cases hq; exact hKn8
    | 9, hq => cases hq; exact hKn9
    | 10, hq => cases hq; exact hKn10
    | 11, hq => cases hq; exact hKn11
    | 12, hq => cases hq; exact hKn12
    | 13, hq => cases hq; exact hKn13
    | k + 14, hq => simp [vwCl] at hq
  obtain ⟨aI, kI, mI, fI1, fI2, fI3⟩ := Cond.arrayClass_spec (htl (.arrayClass .int) mw_32)
  obtain ⟨aJ, kJ, mJ, fJ1, fJ2, fJ3⟩ := Cond.arrayClass_spec (htl (.arrayClass .long) mw_202)
  obtain ⟨aZ, kZ, mZ, fZ1, fZ2, fZ3⟩ := Cond.arrayClass_spec (htl (.arrayClass .boolean) mw_17)
  have oS : va_AO RX9 s := va_AO.of (hts (.arrayOver (.object RX9)) (by decide +kernel))
  obtain ⟨mS, aS, kS, fS0, -, fS2, fS3, fS1⟩ := Cond.arrayOver_spec oS
  have oH : va_AO RX2 s := va_AO.of (hts (.arrayOver (.object RX2)) (by decide +kernel))
  obtain ⟨mH, aH, kH, fH0, -, fH2, fH3, fH1⟩ := Cond.arrayOver_spec oH
  have oT : va_AO RX7 s := va_AO.of (hts (.arrayOver (.object RX7)) (by decide +kernel))
  obtain ⟨mT, aT, kT, fT0, -, fT2, fT3, fT1⟩ := Cond.arrayOver_spec oT
  have oA : (Cond.arrayOver (.array .int)).before #[Value.ref b] s = true := hts (.arrayOver (.array .int)) (by decide +kernel)
  obtain ⟨mA, aA, kA, fA0, fA2, fA3, fA1⟩ := Cond.arrayOver_specA oA
  have hK0 : va_K (dC, dI) vwCl (tys0 (fun k => [aI, aJ, aZ, aS, aH, aT, aA].getD k aI)) s := by
    refine ⟨hKc, fun k q hq => ?_⟩
    match k, hq with
    | 0, hq => cases hq; exact ⟨fun N z => ⟨(fun k h => by cases h), kI, fI2, mI, fI3⟩, fI1⟩
    | 1, hq => cases hq; exact ⟨fun N z => ⟨(fun k h => by cases h), kJ, fJ2, mJ, fJ3⟩, fJ1⟩
    | 2, hq => cases hq; exact ⟨fun N z => ⟨(fun k h => by cases h), kZ, fZ2, mZ, fZ3⟩, fZ1⟩
    | 3, hq => cases hq; exact ⟨fun N z => ⟨(fun k h => by cases h), kS, fS2, mS, fS3⟩, kS, mS, fS2, fS3, fS0, fS1⟩
    | 4, hq => cases hq; exact ⟨fun N z => ⟨(fun k h => by cases h), kH, fH2, mH, fH3⟩, kH, mH, fH2, fH3, fH0, fH1⟩
    | 5, hq => cases hq; exact ⟨fun N z => ⟨(fun k h => by cases h), kT, fT2, mT, fT3⟩, kT, mT, fT2, fT3, fT0, fT1⟩
    | 6, hq => cases hq; exact ⟨fun N z => ⟨(fun k h => by cases h), kA, fA2, mA, fA3⟩, fA1⟩
    | k + 7, hq => simp [tys0] at hq
  have hs := flat_of_before _ hgv
  have hA0 : ∀ a : Nat, a < s.heap.size → ¬ (((fun _ => (0, 0, 0)) : tk_T) a).1 ≠ 0 := fun a _ h => h rfl
  obtain ⟨adK, adV, hvk, hev⟩ := lw_txt (A := fun a => (((fun _ => (0, 0, 0)) : tk_T) a).1 ≠ 0) hgv hA0
  obtain ⟨D, cy, ld, hld, hK⟩ : ∃ (D : va_G) (cy : Nat → ClassId) (ld : Nat → Nat), ld = rt_ld adK adV s.heap.size ∧ kk_K D cy ld s := ⟨(dC, dI), (fun k => [aI, aJ, aZ, aS, aH, aT, aA].getD k aI), _, rfl, hK0, ⟨oS, oH, oT⟩, oA, ⟨va_Nw.of rfl (hts (.methodLinkNest RX2 94 yX12_within RX12) (by decide +kernel)), va_Nw.of rfl (hts (.methodLinkNest RX1 40 yX12_within RX12) (by decide +kernel)), va_Nw.of rfl (hts (.methodLinkNest RX3 33 yX12_within RX12) (by decide +kernel)), va_Nw.of rfl (hts (.methodLinkNest RX6 145 yX12_within RX12) (by decide +kernel))⟩, vk_R.of (hts (.stringRef RX6 108 "lulls tires wakes bars") (by decide +kernel)) (hev 0 (by decide)), vk_R.of (hts (.stringRef RX6 110 "begin sing part dawn") (by decide +kernel)) (hev 1 (by decide)), vk_R.of (hts (.stringRef RX6 184 "skill strong key same hour wake theirs day mood") (by decide +kernel)) (hev 2 (by decide)), vk_R.of (hts (.stringRef RX6 186 "day hour turn done last wake cows") (by decide +kernel)) (hev 3 (by decide)), vk_R.of (hts (.stringRef RX6 120 "with") (by decide +kernel)) (hev 4 (by decide)), vk_R.of (hts (.stringRef RX6 126 "for") (by decide +kernel)) (hev 5 (by decide)), vk_R.of (hts (.stringRef RX6 143 "times") (by decide +kernel)) (hev 6 (by decide)), vk_R.of (hts (.stringRef RX6 131 "if") (by decide +kernel)) (hev 7 (by decide)), vk_R.of (hts (.stringRef RX6 173 "not") (by decide +kernel)) (hev 8 (by decide)), vk_R.of (hts (.stringRef RX6 168 "and") (by decide +kernel)) (hev 9 (by decide)), vk_R.of (hts (.stringRef RX6 160 "or") (by decide +kernel)) (hev 10 (by decide))⟩
  have hZ0 : tk_Z ld (fun _ => (0, 0, 0)) s := ⟨vk_Scg hvk (fun i hi => by rw [hld]; exact if_pos hi) (fun i hi => by rw [hld]; show rt_ld adK adV s.heap.size (50 + i) = adV i; unfold rt_ld; rw [if_neg (by omega), if_pos (by omega), show 50 + i - 50 = i by omega]), va_Zof (hts (.laysStatic "java/lang/String" "COMPACT_STRINGS" "Z") (by decide +kernel)) (hts (.initialized "java/lang/String") (by decide +kernel)) (va_eqt (hs (Cond.eq (.static "java/lang/String" "COMPACT_STRINGS" "Z") (.int 1)) (by decide +kernel))) hA0, va_Zqof (hts (.laysStatic "jdk/internal/util/Preconditions" "SIOOBE_FORMATTER" "Ljava/util/function/BiFunction;") (by decide +kernel)) (hts (.initialized "jdk/internal/util/Preconditions") (by decide +kernel)) (hs (Cond.isRef (.static "jdk/internal/util/Preconditions" "SIOOBE_FORMATTER" "Ljava/util/function/BiFunction;")) (by decide +kernel)) hA0⟩
  obtain ⟨n0, hn0⟩ : ∃ n0 : Nat, s.heap.size = n0 := ⟨_, rfl⟩
  have hS : va_S (fun q : Nat => s.heap.size ≤ q) s.heap s.heap [] := va_S.rf
  have hH := rt_H adK adV n0
  rw [← hn0, ← hld, hn0] at hH
  have hG : rc_G D cy ld (rt_t n0) [] n0 s.heap := ⟨hn0, fun a ha h => absurd (rt_ge ha).1 (Nat.not_le.mpr h)⟩
  have ht0 : rt_t n0 n0 = (13, 0, 0) := if_pos rfl
  have hl := lv_entry ([.ref b]) (n := 4) (Nat.le_of_ble_eq_true rfl)
  rw [lg_entry_eq]
  generalize (lg_sl ([.ref b]) ++ List.replicate (4 - (lg_sl ([.ref b])).length) Slot.unset).toArray = ls at hl ⊢
  have hl : lv_has ls 4 [(0, .ref b)] := hl
  refine rc_new (ci := 12) (fs := [.null, .null, .null, .null, .null, .null, .null, .null, .null, .null, .null, .null, .null, .int 0, .int 0, .int 0, .int 0]) (C := RX12) (T := TX12) (N := 17) hx hb htl inX12 tyX12 tyX12_ok hown (htl _ mw_0) (htl _ mw_1) (htl _ mw_2) hK hG hS rfl dfX12 (Nat.le_of_ble_eq_true rfl) (Nat.le_of_ble_eq_true rfl) dL_law_0 (fun H hG hat_n oq hS => ?_)
  refine W.widen (k := 1) (n := 17) (Nat.le_of_ble_eq_true rfl) (Nat.le_of_ble_eq_true rfl) ?_
  refine lv_dup hx hb dL_law_3 rfl ?_
  have hcc := kc_X12 l D cy ld (rt_t n0) [] n0 (n0 + 1) ht0 hH (fun q _ h => by cases h)
  refine rc_Ia (As := []) (rest := [.ref n0]) (ci := 12) (n1 := n0 + 292) ⟨hx, hb, hml, hown, htl⟩ hK hG hat_n hS (fun q h9 => by show s.heap.size ≤ q; omega) hcc ⟨callB_of 0 htl (wl_inL mw_8) rfl rfl rfl (htl _ mw_2) (htl _ mw_6) hd_yX12_init ⟨(Nat.le_of_ble_eq_true rfl), (Nat.le_of_ble_eq_true rfl)⟩, rfl, htl _ mw_7⟩ rfl hl.1 rfl (Nat.le_of_ble_eq_true rfl) dL_law_4 ⟨(Nat.le_of_ble_eq_true rfl), (Nat.le_of_ble_eq_true rfl)⟩ (fun H locs hG hat_x oq hS => ?_)
  obtain ⟨hat_x, hat_l⟩ := hat_x
  have hat_k : va_at D vwCl (n0 + 1 + 49, .inl (cy 2, 2, .inl (fun _ => 0))) H := hat_l _ (List.mem_cons_of_mem _ (List.mem_singleton.mpr rfl))
  have hat_h : va_at D vwCl ((n0 + 1), .inr (2, [.int 0, .ref (n0 + 1 + 1), .ref (n0 + 1 + 2), .ref (n0 + 1 + 3), .int 0, .ref (n0 + 1 + 4), .ref (n0 + 1 + 5), .int 0, .ref (n0 + 1 + 6), .ref (n0 + 1 + 7), .ref (n0 + 1 + 8), .int 0, .ref (n0 + 1 + 9), .int 0, .ref (n0 + 1 + 10), .int (-1), .int 30, .int 50, .int 0, .ref (n0 + 1 + 11)])) H := hat_l _ (List.mem_cons_self ..)
  refine W.widen (k := 292) (n := 4833) (Nat.le_of_ble_eq_true rfl) (Nat.le_of_ble_eq_true rfl) ?_
  refine lv_astore_n (lv' := [(1, .ref n0), (0, .ref b)]) hx hb dL_law_7 rfl hl (by decide) rfl (fun ls hl => ?_)
  refine rc_new (ci := 13) (fs := [.int 0, .int 0, .null, .null, .null, .null, .null, .null, .int 0, .null, .null, .int 0, .null, .int 0, .int 0, .int 0, .int 0, .long 0, .int 0, .int 0, .int 0, .int 0, .null, .int 0, .null, .null, .int 0, .null, .null, .int 0, .int 0, .null, .null, .null, .int 0, .null, .null, .null, .int 0, .long 0, .long 0, .int 0, .null, .null, .null, .null, .null, .long 0, .null, .null, .null, .null, .null, .int 0, .int 0, .null, .null, .int 0, .int 0, .null, .int 0, .null, .int 0, .int 0, .int 0, .int 0, .null, .null, .null, .int 0]) (C := RX13) (T := TX13) (N := 70) hx hb htl inX13 tyX13 tyX13_ok hown (htl _ mw_3) (htl _ mw_4) (htl _ mw_5) hK hG hS rfl dfX13 (Nat.le_of_ble_eq_true rfl) (Nat.le_of_ble_eq_true rfl) dL_law_8 (fun H hGm hat_n oq hS => ?_)
  refine W.widen (k := 293) (n := 4903) (Nat.le_of_ble_eq_true rfl) (Nat.le_of_ble_eq_true rfl) ?_
  refine lv_dup hx hb dL_law_11 rfl ?_
  have hsm : H.size = n0 + 293 := hGm.1
  have hG := (show ∀ a : Nat, (rt_t n0 a).1 ≠ 0 → ∃ e : va_E, va_at D vwCl (a, e) H ∧ tk_O cy ld (rt_t n0) (rt_t n0 a).1 (rt_t n0 a).2.1 (rt_t n0 a).2.2 e from fun a ha => by
    obtain ⟨e, g1, g2⟩ := hG.2 a ha (rt_ge ha).2 (fun h => by cases h)
    exact ⟨e, g1.kept (oq a (rt_ge ha).2), g2⟩)
  have hat_x := hat_x.kept (oq _ (by omega))
  have hat_k := hat_k.kept (oq _ (by omega))
  have hat_h := hat_h.kept (oq _ (by omega))
  have hcc := kc_X13 l D cy ld (n0 + 292) (n0 + 293)
  refine mr_I (rest := [.ref (n0 + 292)]) (n := n0 + 293) ⟨hx, hb, hml, hown, htl⟩ hK hsm hat_n hS (fun q h9 => by show s.heap.size ≤ q; omega) hcc ⟨callB_of 0 htl (wl_inL mw_185) rfl rfl rfl (htl _ mw_5) (htl _ mw_183) hd_yX13_init ⟨(Nat.le_of_ble_eq_true rfl), (Nat.le_of_ble_eq_true rfl)⟩, rfl, htl _ mw_184⟩ hl.1 rfl (Nat.le_of_ble_eq_true rfl) dL_law_12 ⟨(Nat.le_of_ble_eq_true rfl), (Nat.le_of_ble_eq_true rfl)⟩ (fun H locs F G R S hM hIF hIG hIR hF9 hR9 hR3 oq hS => ?_)
  refine W.widen (k := 330) (n := 27556) (Nat.le_of_ble_eq_true rfl) (Nat.le_of_ble_eq_true rfl) ?_
  refine lv_astore_n (lv' := [(2, .ref (n0 + 292)), (1, .ref n0), (0, .ref b)]) hx hb dL_law_15 rfl hl (by decide) rfl (fun ls hl => ?_)
  have hG : tk_G D cy ld (rt_t n0) [] H := fun a ha _ => by
    obtain ⟨e, g1, g2⟩ := hG a ha
    have h9 := rt_ge ha
    exact ⟨e, g1.kept (oq a (by omega) (by omega)), g2⟩
  have hat_x := hat_x.kept (oq _ (by omega) (by omega))
  have hat_k := hat_k.kept (oq _ (by omega) (by omega))
  have hat_h := hat_h.kept (oq _ (by omega) (by omega))
  have hT := rt_jT adK adV n0
  rw [← hn0, ← hld, hn0] at hT
  have hl20 : ld 20 = n0 + 1 + 0 := hH.2.2.2.2.2.2.2.2.2.2.2.2.2.2.2.2.2.2.2.2.2.2.2.2.2.1
  have hl49 : ld 49 = n0 + 1 + 49 := hH.2.2.2.2.2.2.2.2.2.2.2.2.2.2.2.2.2.2.2.2.2.2.2.2.2.2.2.2.1
  have hk0 : tk_ab H (ld 49) (fun _ => 0) := by
    rw [hl49]
    exact fun j hj => ⟨_, hat_k, arrV_read _ _ hj⟩
  have hh0 : tk_f D H (ld 20) 2 0 (.int 0) := by
    rw [hl20]
    exact tk_f.of (C := RX2) (T := TX2) (N := 20) (k := 0) hat_h rfl (by decide) rfl
  have hh4 : tk_f D H (ld 20) 2 4 (.int 0) := by
    rw [hl20]
    exact tk_f.of (C := RX2) (T := TX2) (N := 20) (k := 4) hat_h rfl (by decide) rfl
  have hh7 : tk_f D H (ld 20) 2 7 (.int 0) := by
    rw [hl20]
    exact tk_f.of (C := RX2) (T := TX2) (N := 20) (k := 7) hat_h rfl (by decide) rfl
  have hh11 : tk_f D H (ld 20) 2 11 (.int 0) := by
    rw [hl20]
    exact tk_f.of (C := RX2) (T := TX2) (N := 20) (k := 11) hat_h rfl (by decide) rfl
  have hJ0 : tk_f D H n0 12 13 (.int 0) := tk_f.of (C := RX12) (T := TX12) (N := 17) (k := 13) hat_x rfl (by decide) rfl
  have hJ5 : tk_f D H n0 12 15 (.int 0) := tk_f.of (C := RX12) (T := TX12) (N := 17) (k := 15) hat_x rfl (by decide) rfl
  have eF13 : F 13 = 0 := hF9 13
  have eF11 : F 11 = 0 := hF9 11
  have hz0 : (0 : Int32).toInt = 0 := by decide
  have eR0 : R 3 0 = 0 := (hR3 0 (by decide)).trans (by decide +kernel)
  have eR1 : R 3 1 = 0 := (hR3 1 (by decide)).trans (by decide +kernel)
  have eR2 : R 3 2 = 0 := (hR3 2 (by decide)).trans (by decide +kernel)
  have eR3 : R 3 3 = 0 := (hR3 3 (by decide)).trans (by decide +kernel)
  obtain ⟨ft, hft⟩ := tk_c.ex hG hT.2.2.2.1 (by decide) (fun _ h => h) tk_no
  have hJ9 : lw_J D ld (rt_t n0) n0 F R H := ⟨hT, jI.zero hG hT.1 hh0 hh4 hh7 hh11 eR0 eR1 eR2 eR3, ⟨_, hk0, ⟨(congrFun (hR9 5 (by decide)) 0).symm, (congrFun (hR9 5 (by decide)) 1).symm⟩, ⟨⟨by decide, by decide⟩, by decide, by decide⟩, fun e => absurd e (by decide), fun e => absurd e (by decide)⟩, ⟨ft, hft, fun j hj => absurd hj (by rw [eF13, hz0]; omega)⟩, by rw [eF13]; exact hJ0, by rw [eF11]; exact hJ5⟩
  refine lv_iconst (v := 0) hx hb dL_law_16 (by decide) ?_
  refine lv_istore_n (lv' := [(3, .int 0), (2, .ref (n0 + 292)), (1, .ref n0), (0, .ref b)]) hx hb dL_law_17 rfl hl (by decide) rfl (fun ls hl => ?_)
  have hw : ∀ a : Nat, mz_W (mr_ad (n0 + 293)) (n0 + 292) a → n0 + 292 ≤ a := fun a h => by
    rcases h with h | ⟨k, -, -, h⟩
    · omega
    · rw [h]; unfold mr_ad; omega
  exact law_loop C0 htl hK hZ0 hL 513 0 (by decide) (by omega) (by omega) (rt_t n0) F G R S H locs 0 _ _ (by decide) (by decide) (by decide) ⟨ht0, hG, fun a h => by have h9 := (rt_ge h).1; omega, mr_D (by omega), hM, ⟨hIF, hIG, hIR⟩, fun a h h2 => by have h8 := (rt_ge h).2; have h9 := hw a h2; omega, fun a h => by have h9 := hw a h; omega⟩ hJ9 hS ls hl
